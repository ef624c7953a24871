import java.math.BigInteger;
import java.util.ArrayList;
import java.util.List;
import java.util.Random;
import java.util.TreeMap;
import java.util.TreeSet;

/**
 * Runs of drawn calls, with fixed seeds, against a second writing of the document that is slow
 * and plain and shares no formula with the class where the document leaves another way.
 */
public final class ModelTest {
    private static final long NO = -9000000000000000000L;
    private static final int CALLS = 512;

    public static void main(String[] args) {
        int runs = args.length > 0 ? Integer.parseInt(args[0]) : 400;
        int wrong = 0;
        for (int seed = 0; seed < runs && wrong < 5; seed++) {
            wrong += run(seed) ? 0 : 1;
        }
        System.out.println(wrong == 0 ? "all answers are as the model's" : wrong + " runs differ from the model");
        if (wrong != 0) {
            System.exit(1);
        }
    }

    private static boolean run(int seed) {
        Random r = new Random(seed);
        ClockCouncil x = new ClockCouncil();
        Model model = new Model();
        StringBuilder told = new StringBuilder();
        Draw draw = new Draw(r, model, seed % 4);
        for (int i = 0; i < CALLS; i++) {
            Call call = draw.next(i);
            long got = call.on(x);
            long want = call.on(model);
            told.append(call.text()).append(" = ").append(got).append('\n');
            if (got != want) {
                System.out.println("run " + seed + ":\n" + told + "due is " + want);
                return false;
            }
        }
        return true;
    }

    private record Call(String name, long a, long b, long c) {
        String text() {
            return name + "(" + a + ", " + b + ", " + c + ")";
        }

        long on(ClockCouncil x) {
            int i = (int) a;
            int j = (int) b;
            int k = (int) c;
            return switch (name) {
                case "go" -> x.go(i);
                case "member" -> x.member(i, j, k);
                case "rate" -> x.rate(i, j, k);
                case "lie" -> x.lie(i, b, c);
                case "rest" -> x.rest(i, b == 1);
                case "counter" -> x.counter(i);
                case "of" -> x.of(i, j);
                case "ask" -> x.ask(i, j);
                case "deliver" -> x.deliver(i);
                case "lose" -> x.lose(i);
                case "twice" -> x.twice(i);
                case "letter" -> x.letter(i, j);
                case "heard" -> x.heard(i, j, k);
                case "votes" -> x.votes(i, b);
                case "council" -> x.council(i, j, k);
                case "meet" -> x.meet(i, j);
                case "lead" -> x.lead(i, j);
                case "stamp" -> x.stamp(i);
                case "given" -> x.given(i, j);
                case "ahead" -> x.ahead(i, j);
                case "wait" -> x.wait(i);
                case "event" -> x.event(i);
                case "link" -> x.link(i, j);
                case "mend" -> x.mend();
                case "order" -> x.order(i);
                case "time" -> x.time(i);
                case "ring" -> x.ring(i);
                default -> x.count(i);
            };
        }

        long on(Model x) {
            int i = (int) a;
            int j = (int) b;
            int k = (int) c;
            return switch (name) {
                case "go" -> x.go(i);
                case "member" -> x.member(i, j, k);
                case "rate" -> x.rate(i, j, k);
                case "lie" -> x.lie(i, b, c);
                case "rest" -> x.rest(i, b == 1);
                case "counter" -> x.counter(i);
                case "of" -> x.of(i, j);
                case "ask" -> x.ask(i, j);
                case "deliver" -> x.deliver(i);
                case "lose" -> x.lose(i);
                case "twice" -> x.twice(i);
                case "letter" -> x.letter(i, j);
                case "heard" -> x.heard(i, j, k);
                case "votes" -> x.votes(i, b);
                case "council" -> x.council(i, j, k);
                case "meet" -> x.meet(i, j);
                case "lead" -> x.lead(i, j);
                case "stamp" -> x.stamp(i);
                case "given" -> x.given(i, j);
                case "ahead" -> x.ahead(i, j);
                case "wait" -> x.waiting(i);
                case "event" -> x.event(i);
                case "link" -> x.link(i, j);
                case "mend" -> x.mend();
                case "order" -> x.order(i);
                case "time" -> x.time(i);
                case "ring" -> x.ring(i);
                default -> x.count(i);
            };
        }
    }

    /** Draws calls that mostly have a meaning in the state at hand, some of them wrong. */
    private static final class Draw {
        private final Random r;
        private final Model model;
        private final int style;

        Draw(Random r, Model model, int style) {
            this.r = r;
            this.model = model;
            this.style = style;
        }

        private int below(int n) {
            return r.nextInt(Math.max(1, n));
        }

        /** A number of 0 to n - 1, now and then one beside. */
        private int number(int n) {
            return r.nextInt(30) == 0 ? (r.nextBoolean() ? -1 : n) : below(n);
        }

        /** Mostly one that is under way. */
        private int letterNumber() {
            int n = model.letters.size();
            int from = below(n);
            for (int i = 0; i < n && r.nextInt(50) > 0; i++) {
                if (model.underWay((from + i) % n)) {
                    return (from + i) % n;
                }
            }
            return number(n);
        }

        /** Mostly the one that has heard of the most. */
        private int hearer() {
            int ms = model.members.size();
            int found = below(ms);
            for (int m = 0; m < ms && r.nextInt(30) > 0; m++) {
                if (model.members.get(m).heard.size() > model.members.get(found).heard.size()) {
                    found = m;
                }
            }
            return r.nextInt(5) == 0 ? number(ms) : found;
        }

        /** In one style of runs few do the asking, so that many spans meet. */
        private int asker() {
            int ms = model.members.size();
            return style == 3 && r.nextInt(4) > 0 ? below(Math.min(ms, 2)) : number(ms);
        }

        private static Call call(String name, long... a) {
            return new Call(name, a.length > 0 ? a[0] : 0, a.length > 1 ? a[1] : 0, a.length > 2 ? a[2] : 0);
        }

        Call next(int i) {
            int ms = model.members.size();
            if (ms > 0 && model.members.get(ms - 1).came == model.now && r.nextInt(4) == 0) {
                return call("rate", number(ms), ratePart(), ratePart());
            }
            if (i < 5) {
                return newMember();
            }
            int kinds = style == 1 ? 60 : style == 2 ? 100 : 80;
            int k = style == 2 && r.nextInt(3) > 0 ? 60 + below(40) : below(kinds);
            if (k < 12) {
                return call("go", ticks());
            }
            if (k < 14) {
                return newMember();
            }
            if (k < 18) {
                return aLie(ms);
            }
            if (k < 20) {
                return call("rest", number(ms), below(style == 3 ? 9 : 3) == 0 ? 1 : 0);
            }
            if (k < 60) {
                return clockCall(k, ms);
            }
            return sortingCall(k, ms);
        }

        private Call newMember() {
            int kind = style == 3 ? 2 + below(3) : number(5);
            int e = r.nextInt(20) == 0 ? 100000 + below(2) : below(60);
            int p = r.nextInt(4) == 0 ? 0 : r.nextInt(20) == 0 ? 200 + below(2) : below(200);
            return call("member", kind, p, e);
        }

        private int ticks() {
            int k = below(20);
            return k == 0 ? 1000000 + below(2) : k == 1 ? below(2) : k < 5 ? below(3000) : 1 + below(40);
        }

        private int ratePart() {
            int k = below(12);
            return k == 0 ? below(100003) : k == 1 ? 100000 : 900 + below(200);
        }

        private Call aLie(int ms) {
            long at = model.now + below(100) - 50;
            long far = 1000000000000L;
            if (r.nextInt(8) == 0) {
                return call("lie", number(ms), -far - below(2) + 3L * below(2), far + below(2) - 5L * below(2));
            }
            return call("lie", number(ms), at, at + below(60) - 2);
        }

        private Call clockCall(int k, int ms) {
            if (k < 26) {
                return call("ask", asker(), number(ms));
            }
            if (k < 40) {
                return call("deliver", letterNumber());
            }
            switch (k) {
                case 40: return call("lose", letterNumber());
                case 41: return call("twice", letterNumber());
                case 42: return call("letter", number(model.letters.size()), number(5));
                case 43: return call("counter", number(ms));
                case 44: case 45: case 46: return call("of", number(ms), number(9));
                case 47: return call("heard", hearer(), number(ms), number(2));
                case 48: return call("votes", hearer(), model.now + below(120) - 60);
                case 49: case 50: case 51: case 52: return call("council", hearer(), liars(), number(5));
                case 53: case 54: return call("meet", below(3) == 0 ? number(ms) : hearer(), liars());
                case 55: return call("lead", number(ms), r.nextInt(10) == 0 ? 1000 + below(2) : below(1001));
                case 56: return call("stamp", number(ms));
                case 57: return call("wait", number(ms));
                case 58: return call("count", number(7));
                default: return call("given", number(model.stamps.size()), number(4));
            }
        }

        private int liars() {
            return below(4) == 0 ? number(10) : below(3);
        }

        private Call sortingCall(int k, int ms) {
            int ss = model.stamps.size();
            int es = model.events.size();
            if (k < 65) {
                return call("stamp", number(ms));
            }
            if (k < 70) {
                return call("event", number(ss));
            }
            if (k < 80) {
                int e = number(es);
                int g = number(es);
                // mostly forward, so that rings don't come at once
                boolean turned = e > g && r.nextInt(style == 0 ? 40 : 12) > 0;
                return turned ? call("link", g, e) : call("link", e, g);
            }
            switch (k % 10) {
                case 0: return call("ahead", number(ss), number(ss));
                case 1: return call("mend");
                case 2: case 3: return call("order", number(es));
                case 4: case 5: return call("time", number(es));
                case 6: case 7: return call("ring", number(6));
                case 8: return call("wait", number(ms));
                default: return call("count", number(7));
            }
        }
    }

    /** Low and high, both included. */
    private record Range(long low, long high) {
        boolean has(long t) {
            return low <= t && t <= high;
        }

        boolean meets(Range o) {
            return Math.max(low, o.low) <= Math.min(high, o.high);
        }
    }

    private record Known(Range range, long asOf) { }

    private static final class M {
        int kind;
        int p;
        int e;
        long came;
        int up = 1;
        int down = 1;
        boolean rests;
        Known own;
        Range told = new Range(0, 0);
        TreeMap<Integer, Known> heard = new TreeMap<>();
        long shown;
        long led;
        int liar;
        int met;
    }

    private static final class L {
        int asker;
        int asked;
        long askedAt;
        int state;
        Range answer;
    }

    private record S(Range range, int member, boolean right) { }

    private static final class Model {
        long now = 0;
        final List<M> members = new ArrayList<>();
        final List<L> letters = new ArrayList<>();
        final List<S> stamps = new ArrayList<>();
        final List<Range> events = new ArrayList<>();
        final List<int[]> links = new ArrayList<>();

        /** The least t that makes t (1000 + p) above (d - 1) 1000. */
        static long atLeast(long d, int p) {
            long low = -10;
            long high = d + 10;
            while (high - low > 1) {
                long t = (low + high) / 2;
                if (big(t, 1000 + p).compareTo(big(d - 1, 1000)) > 0) {
                    high = t;
                } else {
                    low = t;
                }
            }
            return high;
        }

        /** The greatest t that keeps t (1000 - p) below (d + 1) 1000. */
        static long atMost(long d, int p) {
            long low = -10;
            long high = 2 * d + 10;
            while (high - low > 1) {
                long t = (low + high) / 2;
                if (big(t, 1000 - p).compareTo(big(d + 1, 1000)) < 0) {
                    low = t;
                } else {
                    high = t;
                }
            }
            return low;
        }

        static BigInteger big(long a, long b) {
            return BigInteger.valueOf(a).multiply(BigInteger.valueOf(b));
        }

        boolean isMember(int m) {
            return m >= 0 && m < members.size();
        }

        long counted(M x) {
            return big(now - x.came, x.up).divide(BigInteger.valueOf(x.down)).longValueExact();
        }

        Range later(Known k, M x) {
            long d = counted(x) - k.asOf;
            return new Range(k.range.low + atLeast(d, x.p), k.range.high + atMost(d, x.p));
        }

        Range spanNow(M x) {
            return x.kind == 3 ? new Range(now - x.e, now + x.e) : later(x.own, x);
        }

        long go(int n) {
            if (n < 1 || n > 1000000 || now + n > 1000000000) {
                return NO;
            }
            now += n;
            return now;
        }

        long member(int kind, int p, int e) {
            if (kind < 0 || kind > 4 || p < 0 || p > 200 || e < 0 || e > 100000 || members.size() == 10) {
                return NO;
            }
            M x = new M();
            x.kind = kind;
            x.p = p;
            x.e = e;
            x.came = now;
            x.own = new Known(new Range(now - e, now + e), 0);
            x.shown = now - e;
            members.add(x);
            return members.size() - 1;
        }

        long rate(int m, int up, int down) {
            if (!isMember(m) || up < 1 || up > 100000 || down < 1 || down > 100000 || members.get(m).came != now) {
                return NO;
            }
            M x = members.get(m);
            x.up = up;
            x.down = down;
            boolean above = 1000L * up > (1000L + x.p) * down;
            boolean under = 1000L * up < (1000L - x.p) * down;
            return above || under ? 0 : 1;
        }

        long lie(int m, long low, long high) {
            Range allowed = new Range(-1000000000000L, 1000000000000L);
            if (!isMember(m) || members.get(m).kind != 4 || high < low || !allowed.has(low) || !allowed.has(high)) {
                return NO;
            }
            members.get(m).told = new Range(low, high);
            return 1;
        }

        long rest(int m, boolean is) {
            if (!isMember(m) || members.get(m).kind == 0) {
                return NO;
            }
            boolean did = members.get(m).rests;
            members.get(m).rests = is;
            return did ? 1 : 0;
        }

        long counter(int m) {
            return isMember(m) ? counted(members.get(m)) : NO;
        }

        long of(int m, int what) {
            if (!isMember(m) || what < 0 || what > 8) {
                return NO;
            }
            M x = members.get(m);
            long[] all = {spanNow(x).low, spanNow(x).high, x.kind, x.rests ? 1 : 0, x.shown,
                spanNow(x).has(now) ? 1 : 0, x.liar, x.met, x.heard.size()};
            return all[what];
        }

        long ask(int m, int n) {
            if (!isMember(m) || !isMember(n) || m == n || members.get(m).kind == 0 || members.get(m).rests) {
                return NO;
            }
            if (letters.size() == 200) {
                return NO;
            }
            L l = new L();
            l.asker = m;
            l.asked = n;
            l.askedAt = counted(members.get(m));
            letters.add(l);
            return letters.size() - 1;
        }

        boolean underWay(int l) {
            return l >= 0 && l < letters.size() && letters.get(l).state < 2;
        }

        long deliver(int l) {
            if (!underWay(l)) {
                return NO;
            }
            L x = letters.get(l);
            M asker = members.get(x.asker);
            M asked = members.get(x.asked);
            if (x.state == 0) {
                x.state = asked.rests ? 3 : 1;
                if (asked.rests) {
                    return 0;
                }
                x.answer = asked.kind == 4 ? asked.told : spanNow(asked);
                return 1;
            }
            x.state = asker.rests ? 3 : 2;
            if (asker.rests) {
                return 0;
            }
            long c = counted(asker);
            Range heard = new Range(x.answer.low, x.answer.high + atMost(c - x.askedAt, asker.p));
            asker.heard.put(x.asked, new Known(heard, c));
            return 2;
        }

        long lose(int l) {
            if (!underWay(l)) {
                return NO;
            }
            letters.get(l).state = 3;
            return 1;
        }

        long twice(int l) {
            if (!underWay(l) || letters.size() == 200) {
                return NO;
            }
            L x = letters.get(l);
            L y = new L();
            y.asker = x.asker;
            y.asked = x.asked;
            y.askedAt = x.askedAt;
            y.state = x.state;
            y.answer = x.answer;
            letters.add(y);
            return letters.size() - 1;
        }

        long letter(int l, int what) {
            if (l < 0 || l >= letters.size() || what < 0 || what > 4) {
                return NO;
            }
            L x = letters.get(l);
            if (what > 2 && x.answer == null) {
                return NO;
            }
            return what == 0 ? x.asker : what == 1 ? x.asked : what == 2 ? x.state
                : what == 3 ? x.answer.low : x.answer.high;
        }

        long heard(int m, int n, int what) {
            if (!isMember(m) || !isMember(n) || !members.get(m).heard.containsKey(n) || what < 0 || what > 1) {
                return NO;
            }
            Range h = later(members.get(m).heard.get(n), members.get(m));
            return what == 0 ? h.low : h.high;
        }

        TreeMap<Integer, Range> spans(int m) {
            TreeMap<Integer, Range> all = new TreeMap<>();
            M x = members.get(m);
            for (int n : x.heard.keySet()) {
                all.put(n, later(x.heard.get(n), x));
            }
            all.put(m, spanNow(x));
            return all;
        }

        static int having(TreeMap<Integer, Range> all, long time) {
            int n = 0;
            for (Range s : all.values()) {
                n += s.has(time) ? 1 : 0;
            }
            return n;
        }

        long votes(int m, long time) {
            return isMember(m) ? having(spans(m), time) : NO;
        }

        /** The pieces, by going over all times at which something begins or has just ended. */
        static List<Range> pieces(TreeMap<Integer, Range> all, int needed) {
            TreeSet<Long> marks = new TreeSet<>();
            for (Range s : all.values()) {
                marks.add(s.low);
                marks.add(s.high + 1);
            }
            List<Range> found = new ArrayList<>();
            Long begun = null;
            for (long t : marks) {
                boolean in = having(all, t) >= needed;
                if (in && begun == null) {
                    begun = t;
                }
                if (!in && begun != null) {
                    found.add(new Range(begun, t - 1));
                    begun = null;
                }
            }
            return found;
        }

        static Range hull(List<Range> pieces) {
            return new Range(pieces.get(0).low, pieces.get(pieces.size() - 1).high);
        }

        static long liars(TreeMap<Integer, Range> all, Range council) {
            long bits = 0;
            for (int n : all.keySet()) {
                bits += all.get(n).meets(council) ? 0 : 1L << n;
            }
            return bits;
        }

        long council(int m, int f, int what) {
            if (!isMember(m) || what < 0 || what > 4 || f < 0 || f >= spans(m).size()) {
                return NO;
            }
            TreeMap<Integer, Range> all = spans(m);
            List<Range> p = pieces(all, all.size() - f);
            if (what < 2) {
                return what == 0 ? all.size() : p.size();
            }
            if (p.isEmpty()) {
                return NO;
            }
            return what == 2 ? hull(p).low : what == 3 ? hull(p).high : liars(all, hull(p));
        }

        long meet(int m, int f) {
            if (!isMember(m) || members.get(m).kind < 2 || members.get(m).rests || f < 0 || f >= spans(m).size()) {
                return NO;
            }
            TreeMap<Integer, Range> all = spans(m);
            List<Range> p = pieces(all, all.size() - f);
            if (p.isEmpty()) {
                return NO;
            }
            long bits = liars(all, hull(p));
            for (int n : all.keySet()) {
                members.get(n).met++;
                members.get(n).liar += (int) (bits >> n & 1);
            }
            M x = members.get(m);
            x.own = new Known(hull(p), counted(x));
            x.heard.clear();
            return bits;
        }

        long lead(int m, int lead) {
            if (!isMember(m) || lead < 0 || lead > 1000 || members.get(m).rests) {
                return NO;
            }
            M x = members.get(m);
            long d = counted(x) - x.led;
            long s = d * lead / 1000;
            long middle = spanNow(x).low + spanNow(x).high >> 1;
            if (middle < x.shown + d - s) {
                x.shown += d - s;
            } else if (middle > x.shown + d + s) {
                x.shown += d + s;
            } else {
                x.shown = middle;
            }
            x.led = counted(x);
            return x.shown;
        }

        long stamp(int m) {
            if (!isMember(m) || stamps.size() == 100) {
                return NO;
            }
            Range s = spanNow(members.get(m));
            stamps.add(new S(s, m, s.has(now)));
            return stamps.size() - 1;
        }

        boolean isStamp(int s) {
            return s >= 0 && s < stamps.size();
        }

        long given(int s, int what) {
            if (!isStamp(s) || what < 0 || what > 3) {
                return NO;
            }
            S x = stamps.get(s);
            return what == 0 ? x.range.low : what == 1 ? x.range.high : what == 2 ? x.member : x.right ? 1 : 0;
        }

        long ahead(int a, int b) {
            if (!isStamp(a) || !isStamp(b)) {
                return NO;
            }
            Range x = stamps.get(a).range;
            Range y = stamps.get(b).range;
            return x.meets(y) ? 0 : Long.compare(y.low, x.low);
        }

        boolean aboveAllStamps(M x, long more) {
            long low = x.own.range.low + atLeast(counted(x) - x.own.asOf + more, x.p);
            for (S s : stamps) {
                if (low <= s.range.high) {
                    return false;
                }
            }
            return true;
        }

        long waiting(int m) {
            if (!isMember(m) || members.get(m).kind == 3) {
                return NO;
            }
            M x = members.get(m);
            if (aboveAllStamps(x, 0)) {
                return 0;
            }
            long no = 0;
            long yes = 1;
            while (!aboveAllStamps(x, yes)) {
                yes *= 2;
            }
            while (yes - no > 1) {
                long c = (no + yes) / 2;
                if (aboveAllStamps(x, c)) {
                    yes = c;
                } else {
                    no = c;
                }
            }
            return yes;
        }

        long event(int s) {
            if (!isStamp(s) || events.size() == 30) {
                return NO;
            }
            events.add(stamps.get(s).range);
            return events.size() - 1;
        }

        boolean isEvent(int e) {
            return e >= 0 && e < events.size();
        }

        long link(int e, int g) {
            if (!isEvent(e) || !isEvent(g) || e == g || links.size() == 60) {
                return NO;
            }
            links.add(new int[] {e, g});
            return links.size();
        }

        boolean hasRing() {
            TreeSet<Integer> left = new TreeSet<>();
            for (int e = 0; e < events.size(); e++) {
                left.add(e);
            }
            boolean taken = true;
            while (taken) {
                taken = left.removeIf(e -> links.stream().noneMatch(l -> l[1] == e && left.contains(l[0])));
            }
            return !left.isEmpty();
        }

        /** The least times with a widening, or null when some event would come too late. */
        long[] leastTimes(long w) {
            long[] t = new long[events.size()];
            for (int e = 0; e < t.length; e++) {
                t[e] = events.get(e).low - w;
            }
            boolean again = true;
            while (again) {
                again = false;
                for (int[] l : links) {
                    if (t[l[1]] < t[l[0]] + 1) {
                        t[l[1]] = t[l[0]] + 1;
                        again = true;
                    }
                }
            }
            for (int e = 0; e < t.length; e++) {
                if (t[e] > events.get(e).high + w) {
                    return null;
                }
            }
            return t;
        }

        long mend() {
            if (hasRing()) {
                return -1;
            }
            long no = -1;
            long yes = 1;
            while (leastTimes(yes) == null) {
                yes *= 2;
            }
            while (yes - no > 1) {
                long w = Math.floorDiv(no + yes, 2);
                if (leastTimes(w) != null) {
                    yes = w;
                } else {
                    no = w;
                }
            }
            return yes;
        }

        long order(int k) {
            long w = mend();
            if (w < 0 || !isEvent(k)) {
                return NO;
            }
            long[] t = leastTimes(w);
            for (int e = 0; e < t.length; e++) {
                int ahead = 0;
                for (int g = 0; g < t.length; g++) {
                    ahead += t[g] < t[e] || t[g] == t[e] && g < e ? 1 : 0;
                }
                if (ahead == k) {
                    return e;
                }
            }
            return NO;
        }

        long time(int e) {
            long w = mend();
            return w < 0 || !isEvent(e) ? NO : leastTimes(w)[e];
        }

        /** The first ring of so many events that a search in rising numbers finds. */
        boolean search(List<Integer> path, int length) {
            int last = path.get(path.size() - 1);
            TreeSet<Integer> next = new TreeSet<>();
            for (int[] l : links) {
                if (l[0] == last) {
                    next.add(l[1]);
                }
            }
            if (path.size() == length) {
                return next.contains(path.get(0));
            }
            for (int g : next) {
                if (g > path.get(0) && !path.contains(g)) {
                    path.add(g);
                    if (search(path, length)) {
                        return true;
                    }
                    path.remove(path.size() - 1);
                }
            }
            return false;
        }

        long ring(int k) {
            if (!hasRing() || k < 0) {
                return NO;
            }
            for (int length = 2; length <= events.size(); length++) {
                for (int first = 0; first < events.size(); first++) {
                    List<Integer> path = new ArrayList<>(List.of(first));
                    if (search(path, length)) {
                        return k < length ? path.get(k) : -1;
                    }
                }
            }
            return NO;
        }

        long count(int what) {
            long under = letters.stream().filter(l -> l.state < 2).count();
            long[] all = {members.size(), letters.size(), under, stamps.size(), events.size(), links.size(), now};
            return what < 0 || what > 6 ? NO : all[what];
        }
    }
}
