/**
 * A council of clocks, none of which sees the true time. What each call answers,
 * changes and refuses is told in DOC.md as promises 1 to 29; the words used here are its terms.
 */
public final class ClockCouncil {
    public static final long NO = -9000000000000000000L;

    private static final int PLAIN = 0;
    private static final int HELD = 1;
    private static final int BEST = 3;
    private static final int LYING = 4;

    private static final int UNDER_WAY_TO = 0;
    private static final int UNDER_WAY_BACK = 1;
    private static final int GOT = 2;
    private static final int LOST = 3;

    private static final int MOST_MEMBERS = 10;
    private static final int MOST_LETTERS = 200;
    private static final int MOST_STAMPS = 100;
    private static final int MOST_EVENTS = 30;
    private static final int MOST_LINKS = 60;

    private static final int MOST_TICKS_AT_ONCE = 1000000;
    private static final long MOST_TRUE_TIME = 1000000000L;
    private static final int MOST_DRIFT = 200;
    private static final int MOST_NEARNESS = 100000;
    private static final int MOST_RATE_PART = 100000;
    private static final long FARTHEST_LIE = 1000000000000L;
    private static final int MOST_LEAD = 1000;
    private static final int THOUSAND = 1000;

    private long trueTime;
    private final Member[] members;
    private int memberCount;
    private final Letter[] letters;
    private int letterCount;
    private final Stamp[] stamps;
    private int stampCount;
    private final Gathering gathering;
    private final Sorting sorting;

    public ClockCouncil() {
        trueTime = 0;
        members = new Member[MOST_MEMBERS];
        memberCount = 0;
        letters = new Letter[MOST_LETTERS];
        letterCount = 0;
        stamps = new Stamp[MOST_STAMPS];
        stampCount = 0;
        gathering = new Gathering();
        sorting = new Sorting();
    }

    // ---- true time and members ----

    public long go(int n) {
        if (n < 1 || n > MOST_TICKS_AT_ONCE || trueTime + n > MOST_TRUE_TIME) {
            return NO;
        }
        trueTime += n;
        return trueTime;
    }

    public long member(int kind, int p, int e) {
        if (kind < PLAIN || kind > LYING || p < 0 || p > MOST_DRIFT || e < 0 || e > MOST_NEARNESS) {
            return NO;
        }
        if (memberCount >= MOST_MEMBERS) {
            return NO;
        }
        members[memberCount] = new Member(memberCount, kind, p, e, trueTime);
        memberCount++;
        return memberCount - 1;
    }

    public long rate(int m, int up, int down) {
        Member x = findMember(m);
        if (x == null || up < 1 || up > MOST_RATE_PART || down < 1 || down > MOST_RATE_PART) {
            return NO;
        }
        if (x.came != trueTime) {
            return NO;
        }
        x.up = up;
        x.down = down;
        long off = Math.abs((long) up - down);
        return asBit(off * THOUSAND <= (long) x.drift * down);
    }

    public long lie(int m, long low, long high) {
        Member x = findMember(m);
        if (x == null || x.kind != LYING || high < low) {
            return NO;
        }
        if (low < -FARTHEST_LIE || high > FARTHEST_LIE) {
            return NO;
        }
        x.toldLow = low;
        x.toldHigh = high;
        return 1;
    }

    public long rest(int m, boolean is) {
        Member x = findMember(m);
        if (x == null || x.kind == PLAIN) {
            return NO;
        }
        boolean did = x.rests;
        x.rests = is;
        return asBit(did);
    }

    public long counter(int m) {
        Member x = findMember(m);
        return x == null ? NO : x.countedAt(trueTime);
    }

    public long of(int m, int what) {
        Member x = findMember(m);
        if (x == null) {
            return NO;
        }
        switch (what) {
            case 0: return x.lowAt(trueTime);
            case 1: return x.highAt(trueTime);
            case 2: return x.kind;
            case 3: return asBit(x.rests);
            case 4: return x.shown;
            case 5: return asBit(x.holds(trueTime));
            case 6: return x.timesLiar;
            case 7: return x.timesMet;
            case 8: return x.howManyHeard();
            default: return NO;
        }
    }

    // ---- letters ----

    public long ask(int m, int n) {
        Member asker = findMember(m);
        Member asked = findMember(n);
        if (asker == null || asked == null || m == n) {
            return NO;
        }
        if (asker.kind == PLAIN || asker.rests || letterCount >= MOST_LETTERS) {
            return NO;
        }
        return addLetter(new Letter(asker, asked, asker.countedAt(trueTime)));
    }

    public long deliver(int l) {
        Letter x = findUnderWay(l);
        if (x == null) {
            return NO;
        }
        Member receiver = x.state == UNDER_WAY_TO ? x.asked : x.asker;
        if (receiver.rests) {
            x.state = LOST;
            return 0;
        }
        if (x.state == UNDER_WAY_TO) {
            x.takeAnswer(trueTime);
            return 1;
        }
        x.bringBack(trueTime);
        return 2;
    }

    public long lose(int l) {
        Letter x = findUnderWay(l);
        if (x == null) {
            return NO;
        }
        x.state = LOST;
        return 1;
    }

    public long twice(int l) {
        Letter x = findUnderWay(l);
        if (x == null || letterCount >= MOST_LETTERS) {
            return NO;
        }
        Letter other = new Letter(x.asker, x.asked, x.askedAt);
        other.state = x.state;
        other.answered = x.answered;
        other.low = x.low;
        other.high = x.high;
        return addLetter(other);
    }

    public long letter(int l, int what) {
        Letter x = findLetter(l);
        if (x == null) {
            return NO;
        }
        switch (what) {
            case 0: return x.asker.number;
            case 1: return x.asked.number;
            case 2: return x.state;
            case 3: return x.answered ? x.low : NO;
            case 4: return x.answered ? x.high : NO;
            default: return NO;
        }
    }

    public long heard(int m, int n, int what) {
        Member x = findMember(m);
        if (x == null || findMember(n) == null || !x.hasHeardOf(n)) {
            return NO;
        }
        switch (what) {
            case 0: return x.heardLowAt(n, trueTime);
            case 1: return x.heardHighAt(n, trueTime);
            default: return NO;
        }
    }

    // ---- meetings ----

    public long votes(int m, long time) {
        Member x = findMember(m);
        if (x == null) {
            return NO;
        }
        gather(x);
        return gathering.having(time);
    }

    public long council(int m, int f, int what) {
        Member x = findMember(m);
        if (x == null || what < 0 || what > 4) {
            return NO;
        }
        gather(x);
        if (f < 0 || f >= gathering.size) {
            return NO;
        }
        int needed = gathering.size - f;
        if (what == 0) {
            return gathering.size;
        }
        if (what == 1) {
            return gathering.pieces(needed);
        }
        long low = gathering.least(needed);
        long high = gathering.greatest(needed);
        if (low == NO || high == NO) {
            return NO;
        }
        if (what == 2) {
            return low;
        }
        return what == 3 ? high : gathering.apartFrom(low, high);
    }

    public long meet(int m, int f) {
        Member x = findMember(m);
        if (x == null || x.kind == PLAIN || x.kind == HELD || x.rests) {
            return NO;
        }
        gather(x);
        if (f < 0 || f >= gathering.size) {
            return NO;
        }
        long low = gathering.least(gathering.size - f);
        long high = gathering.greatest(gathering.size - f);
        if (low == NO || high == NO) {
            return NO;
        }
        int liars = gathering.apartFrom(low, high);
        noteMeeting(liars);
        x.forgetHeard();
        if (x.kind != BEST) {
            x.own.put(low, high, x.countedAt(trueTime));
        }
        return liars;
    }

    public long lead(int m, int lead) {
        Member x = findMember(m);
        if (x == null || lead < 0 || lead > MOST_LEAD || x.rests) {
            return NO;
        }
        long counted = x.countedAt(trueTime);
        long gone = counted - x.ledAt;
        long slack = floorOf(gone * lead, THOUSAND);
        long middle = floorOf(x.lowAt(trueTime) + x.highAt(trueTime), 2);
        long step = Math.min(Math.max(middle - x.shown, gone - slack), gone + slack);
        x.shown += step;
        x.ledAt = counted;
        return x.shown;
    }

    // ---- stamps ----

    public long stamp(int m) {
        Member x = findMember(m);
        if (x == null || stampCount >= MOST_STAMPS) {
            return NO;
        }
        stamps[stampCount] = new Stamp(x.lowAt(trueTime), x.highAt(trueTime), m, x.holds(trueTime));
        stampCount++;
        return stampCount - 1;
    }

    public long given(int stamp, int what) {
        Stamp x = findStamp(stamp);
        if (x == null) {
            return NO;
        }
        switch (what) {
            case 0: return x.low;
            case 1: return x.high;
            case 2: return x.giver;
            case 3: return asBit(x.right);
            default: return NO;
        }
    }

    public long ahead(int a, int b) {
        Stamp first = findStamp(a);
        Stamp second = findStamp(b);
        if (first == null || second == null) {
            return NO;
        }
        if (first.high < second.low) {
            return 1;
        }
        return second.high < first.low ? -1 : 0;
    }

    public long wait(int m) {
        Member x = findMember(m);
        if (x == null || x.kind == BEST) {
            return NO;
        }
        if (stampCount == 0) {
            return 0;
        }
        long goal = latestStamped() + 1;
        if (x.lowAt(trueTime) >= goal) {
            return 0;
        }
        long gone = x.countedAt(trueTime) - x.own.asOf;
        return countFor(goal - x.own.low, x.drift) - gone;
    }

    // ---- events ----

    public long event(int stamp) {
        Stamp x = findStamp(stamp);
        if (x == null || sorting.eventCount >= MOST_EVENTS) {
            return NO;
        }
        return sorting.addEvent(x.low, x.high);
    }

    public long link(int e, int g) {
        if (!sorting.hasEvent(e) || !sorting.hasEvent(g) || e == g || sorting.linkCount >= MOST_LINKS) {
            return NO;
        }
        return sorting.addLink(e, g);
    }

    public long mend() {
        sorting.settle();
        return sorting.widening;
    }

    public long order(int k) {
        sorting.settle();
        return sorting.widening < 0 || !sorting.hasEvent(k) ? NO : sorting.ranked[k];
    }

    public long time(int e) {
        sorting.settle();
        return sorting.widening < 0 || !sorting.hasEvent(e) ? NO : sorting.earliest[e] - sorting.widening;
    }

    public long ring(int k) {
        sorting.settle();
        if (sorting.ringLength == 0 || k < 0) {
            return NO;
        }
        return k < sorting.ringLength ? sorting.ringed[k] : -1;
    }

    public long count(int what) {
        switch (what) {
            case 0: return memberCount;
            case 1: return letterCount;
            case 2: return howManyUnderWay();
            case 3: return stampCount;
            case 4: return sorting.eventCount;
            case 5: return sorting.linkCount;
            case 6: return trueTime;
            default: return NO;
        }
    }

    // ---- helpers over what the council holds ----

    private Member findMember(int m) {
        return m < 0 || m >= memberCount ? null : members[m];
    }

    private Letter findLetter(int l) {
        return l < 0 || l >= letterCount ? null : letters[l];
    }

    private Letter findUnderWay(int l) {
        Letter x = findLetter(l);
        return x == null || !x.isUnderWay() ? null : x;
    }

    private Stamp findStamp(int s) {
        return s < 0 || s >= stampCount ? null : stamps[s];
    }

    private long addLetter(Letter x) {
        if (letterCount >= MOST_LETTERS) {
            return NO;
        }
        letters[letterCount] = x;
        letterCount++;
        return letterCount - 1;
    }

    private int howManyUnderWay() {
        int found = 0;
        for (int l = 0; l < letterCount; l++) {
            if (findUnderWay(l) != null) {
                found++;
            }
        }
        return found;
    }

    private void gather(Member x) {
        gathering.clear();
        gathering.add(x.number, x.lowAt(trueTime), x.highAt(trueTime));
        for (int n = 0; n < memberCount; n++) {
            if (x.hasHeardOf(n)) {
                gathering.add(n, x.heardLowAt(n, trueTime), x.heardHighAt(n, trueTime));
            }
        }
    }

    private void noteMeeting(int liars) {
        for (int i = 0; i < gathering.size; i++) {
            Member x = findMember(gathering.who[i]);
            if (x != null) {
                x.timesMet++;
                x.timesLiar += (liars >> x.number) & 1;
            }
        }
    }

    /** The greatest HIGH of all stamps; to be asked only when there is one. */
    private long latestStamped() {
        long latest = NO;
        for (int s = 0; s < stampCount; s++) {
            Stamp x = findStamp(s);
            if (x != null) {
                latest = Math.max(latest, x.high);
            }
        }
        return latest;
    }

    // ---- arithmetic ----

    private static long asBit(boolean is) {
        return is ? 1 : 0;
    }

    private static long floorOf(long top, long bottom) {
        return bottom < 1 ? 0 : Math.floorDiv(top, bottom);
    }

    private static long ceilOf(long top, long bottom) {
        return bottom < 1 ? 0 : -Math.floorDiv(-top, bottom);
    }

    private static long atLeast(long gone, int drift) {
        return floorOf((gone - 1) * THOUSAND, THOUSAND + drift) + 1;
    }

    private static long atMost(long gone, int drift) {
        return ceilOf((gone + 1) * THOUSAND, THOUSAND - drift) - 1;
    }

    /** The least count for which so many ticks (1 or more) have gone AT LEAST: atLeast turned round. */
    private static long countFor(long ticks, int drift) {
        // ticks times drift alone, not times 1000 + drift, so that far spans stay within a long
        return ticks + ceilOf((ticks - 1) * drift, THOUSAND);
    }

    // ---- what the council is made of ----

    /** A span as it was when the counter of the member that knows it stood at asOf. */
    private static final class Span {
        boolean known;
        long low;
        long high;
        long asOf;

        void put(long newLow, long newHigh, long counted) {
            known = true;
            low = newLow;
            high = newHigh;
            asOf = counted;
        }

        long lowWhen(long counted, int drift) {
            return low + atLeast(counted - asOf, drift);
        }

        long highWhen(long counted, int drift) {
            return high + atMost(counted - asOf, drift);
        }
    }

    private static final class Member {
        final int number;
        final int kind;
        final int drift;
        final int nearness;
        final long came;
        int up;
        int down;
        boolean rests;
        final Span own;
        final Span[] spansHeard;
        long toldLow;
        long toldHigh;
        long shown;
        long ledAt;
        int timesLiar;
        int timesMet;

        Member(int number, int kind, int drift, int nearness, long now) {
            this.number = number;
            this.kind = kind;
            this.drift = drift;
            this.nearness = nearness;
            came = now;
            up = 1;
            down = 1;
            own = new Span();
            own.put(now - nearness, now + nearness, 0);
            shown = now - nearness;
            spansHeard = new Span[MOST_MEMBERS];
        }

        long countedAt(long now) {
            return floorOf((now - came) * up, down);
        }

        long lowAt(long now) {
            return kind == BEST ? now - nearness : own.lowWhen(countedAt(now), drift);
        }

        long highAt(long now) {
            return kind == BEST ? now + nearness : own.highWhen(countedAt(now), drift);
        }

        boolean holds(long now) {
            return lowAt(now) <= now && now <= highAt(now);
        }

        /** What was heard of a member, or null when nothing was. */
        Span spanOf(int n) {
            if (n < 0 || n >= spansHeard.length) {
                return null;
            }
            Span x = spansHeard[n];
            return x == null || !x.known ? null : x;
        }

        boolean hasHeardOf(int n) {
            return spanOf(n) != null;
        }

        long heardLowAt(int n, long now) {
            Span x = spanOf(n);
            return x == null ? NO : x.lowWhen(countedAt(now), drift);
        }

        long heardHighAt(int n, long now) {
            Span x = spanOf(n);
            return x == null ? NO : x.highWhen(countedAt(now), drift);
        }

        void hear(int n, long low, long high, long counted) {
            if (n < 0 || n >= spansHeard.length) {
                return;
            }
            // a forgotten span's object is used again: memory is never given back within a run
            if (spansHeard[n] == null) {
                spansHeard[n] = new Span();
            }
            spansHeard[n].put(low, high, counted);
        }

        int howManyHeard() {
            int found = 0;
            for (int n = 0; n < spansHeard.length; n++) {
                if (hasHeardOf(n)) {
                    found++;
                }
            }
            return found;
        }

        void forgetHeard() {
            for (int n = 0; n < spansHeard.length; n++) {
                if (spansHeard[n] != null) {
                    spansHeard[n].known = false;
                }
            }
        }
    }

    private static final class Letter {
        final Member asker;
        final Member asked;
        final long askedAt;
        int state;
        boolean answered;
        long low;
        long high;

        Letter(Member asker, Member asked, long askedAt) {
            this.asker = asker;
            this.asked = asked;
            this.askedAt = askedAt;
            state = UNDER_WAY_TO;
        }

        boolean isUnderWay() {
            return state == UNDER_WAY_TO || state == UNDER_WAY_BACK;
        }

        void takeAnswer(long now) {
            boolean lies = asked.kind == LYING;
            low = lies ? asked.toldLow : asked.lowAt(now);
            high = lies ? asked.toldHigh : asked.highAt(now);
            answered = true;
            state = UNDER_WAY_BACK;
        }

        void bringBack(long now) {
            long counted = asker.countedAt(now);
            asker.hear(asked.number, low, high + atMost(counted - askedAt, asker.drift), counted);
            state = GOT;
        }
    }

    private static final class Stamp {
        final long low;
        final long high;
        final int giver;
        final boolean right;

        Stamp(long low, long high, int giver, boolean right) {
            this.low = low;
            this.high = high;
            this.giver = giver;
            this.right = right;
        }
    }

    /** The spans that meet, all as of now; its rows are filled anew for each question. */
    private static final class Gathering {
        final int[] who;
        final long[] lows;
        final long[] highs;
        int size;

        Gathering() {
            who = new int[MOST_MEMBERS];
            lows = new long[MOST_MEMBERS];
            highs = new long[MOST_MEMBERS];
        }

        void clear() {
            size = 0;
        }

        void add(int number, long low, long high) {
            if (size >= who.length) {
                return;
            }
            who[size] = number;
            lows[size] = low;
            highs[size] = high;
            size++;
        }

        int having(long moment) {
            int found = 0;
            for (int i = 0; i < size; i++) {
                if (lows[i] <= moment && moment <= highs[i]) {
                    found++;
                }
            }
            return found;
        }

        /** The least time that so many spans have, or NO: only where a span begins can there be more of them. */
        long least(int needed) {
            long found = NO;
            for (int i = 0; i < size; i++) {
                if (having(lows[i]) >= needed && (found == NO || lows[i] < found)) {
                    found = lows[i];
                }
            }
            return found;
        }

        long greatest(int needed) {
            long found = NO;
            for (int i = 0; i < size; i++) {
                if (having(highs[i]) >= needed && (found == NO || highs[i] > found)) {
                    found = highs[i];
                }
            }
            return found;
        }

        int pieces(int needed) {
            int found = 0;
            for (int i = 0; i < size; i++) {
                boolean begins = having(lows[i]) >= needed && having(lows[i] - 1) < needed;
                if (begins && !beganBefore(i)) {
                    found++;
                }
            }
            return found;
        }

        boolean beganBefore(int i) {
            for (int j = 0; j < i; j++) {
                if (lows[j] == lows[i]) {
                    return true;
                }
            }
            return false;
        }

        /** A bit for each member whose span has no time in common with low to high. */
        int apartFrom(long low, long high) {
            int bits = 0;
            for (int i = 0; i < size; i++) {
                if (highs[i] < low || lows[i] > high) {
                    bits |= 1 << who[i];
                }
            }
            return bits;
        }
    }

    /** The events and their links, and what follows from them, found anew only after one was added. */
    private static final class Sorting {
        final long[] lows;
        final long[] highs;
        int eventCount;
        final int[] from;
        final int[] to;
        int linkCount;
        final int[] after;
        final long[] earliest;
        final int[] ranked;
        final int[] ringed;
        final int[] away;
        int ringLength;
        long widening;
        boolean settled;

        Sorting() {
            lows = new long[MOST_EVENTS];
            highs = new long[MOST_EVENTS];
            from = new int[MOST_LINKS];
            to = new int[MOST_LINKS];
            after = new int[MOST_EVENTS];
            earliest = new long[MOST_EVENTS];
            ranked = new int[MOST_EVENTS];
            ringed = new int[MOST_EVENTS];
            away = new int[MOST_EVENTS];
        }

        boolean hasEvent(int e) {
            return e >= 0 && e < eventCount;
        }

        long addEvent(long low, long high) {
            if (eventCount >= MOST_EVENTS) {
                return NO;
            }
            lows[eventCount] = low;
            highs[eventCount] = high;
            eventCount++;
            settled = false;
            return eventCount - 1;
        }

        long addLink(int e, int g) {
            if (linkCount >= MOST_LINKS || !hasEvent(e) || !hasEvent(g)) {
                return NO;
            }
            from[linkCount] = e;
            to[linkCount] = g;
            after[e] |= 1 << g;
            linkCount++;
            settled = false;
            return linkCount;
        }

        void settle() {
            if (settled) {
                return;
            }
            settled = true;
            ringLength = 0;
            if (!findEarliest()) {
                widening = -1;
                findRing();
                return;
            }
            findWidening();
            rank();
        }

        /** The least times if only the LOWs bound them, unwidened; false when links make a ring. */
        boolean findEarliest() {
            for (int e = 0; e < eventCount; e++) {
                earliest[e] = lows[e];
            }
            // without a ring no chain has more links than events, so that a rise in the last pass tells a ring
            boolean rose = true;
            for (int pass = 0; pass <= eventCount && rose; pass++) {
                rose = raiseOnce();
            }
            return !rose;
        }

        boolean raiseOnce() {
            boolean rose = false;
            for (int i = 0; i < linkCount; i++) {
                if (earliest[to[i]] <= earliest[from[i]]) {
                    earliest[to[i]] = earliest[from[i]] + 1;
                    rose = true;
                }
            }
            return rose;
        }

        /** Widening by w moves all least times down and all HIGHs up by w, so that half of each excess is enough. */
        void findWidening() {
            widening = 0;
            for (int e = 0; e < eventCount; e++) {
                widening = Math.max(widening, ceilOf(earliest[e] - highs[e], 2));
            }
        }

        void rank() {
            for (int e = 0; e < eventCount; e++) {
                int place = e;
                while (place > 0 && earliest[ranked[place - 1]] > earliest[e]) {
                    ranked[place] = ranked[place - 1];
                    place--;
                }
                ranked[place] = e;
            }
        }

        /**
         * The shortest ring that is least by its events. A walk of that length back to its first
         * event can meet none twice, or there would be a shorter ring; and no event of it is below
         * the first, as each of them has a ring of that length.
         */
        void findRing() {
            int first = -1;
            for (int e = 0; e < eventCount; e++) {
                measureTo(e);
                int second = nearestAfter(e);
                if (second >= 0 && (first < 0 || away[second] + 1 < ringLength)) {
                    first = e;
                    ringLength = away[second] + 1;
                }
            }
            if (first < 0) {
                return;
            }
            measureTo(first);
            int at = first;
            for (int k = 0; k < ringLength && at >= 0; k++) {
                ringed[k] = at;
                at = nearestAfter(at);
            }
        }

        /** How many links each event is away from the goal; -1 when none lead there. */
        void measureTo(int goal) {
            for (int e = 0; e < eventCount; e++) {
                away[e] = e == goal ? 0 : -1;
            }
            int reached = 1 << goal;
            for (int steps = 1; steps <= eventCount && reached != 0; steps++) {
                int next = 0;
                for (int e = 0; e < eventCount; e++) {
                    if (away[e] < 0 && (after[e] & reached) != 0) {
                        away[e] = steps;
                        next |= 1 << e;
                    }
                }
                reached = next;
            }
        }

        /** Of the events that must follow e the nearest to the goal, of such the least; -1 when none leads there. */
        int nearestAfter(int e) {
            int found = -1;
            for (int g = 0; g < eventCount; g++) {
                boolean leads = (after[e] >> g & 1) != 0 && away[g] >= 0;
                if (leads && (found < 0 || away[g] < away[found])) {
                    found = g;
                }
            }
            return found;
        }
    }
}
