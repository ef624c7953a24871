import java.math.BigInteger;
import java.nio.file.Files;
import java.nio.file.Path;
import java.util.ArrayList;
import java.util.Arrays;
import java.util.LinkedHashMap;
import java.util.List;
import java.util.Map;
import java.util.regex.Matcher;
import java.util.regex.Pattern;

/**
 * Each sentence of the document that names a boundary case has a test of its own here, under its words.
 * A run is told as calls with what they must answer: "go 0 = NO; go 1 = 1". Every call of a run that is
 * refused or only asks is also looked at for having changed nothing, now and in what comes after it.
 * No object is used for more than 512 calls, but where a test says so.
 */
public final class BoundaryTest {
    private static final long NO = -9000000000000000000L;
    private static final int MOST_CALLS = 512;
    private static final List<String> CHANGING = Arrays.asList("go", "member", "rate", "lie", "rest", "ask",
        "deliver", "lose", "twice", "meet", "lead", "stamp", "event", "link");
    private static final Map<String, List<String>> QUOTES = new LinkedHashMap<>();
    private static int wrong = 0;
    private static int tests = 0;
    private static String sentence = "";

    public static void main(String[] args) throws Exception {
        theTerms();
        termsOfMembers();
        termsOfLetters();
        termsOfMeetings();
        termsOfLeading();
        termsOfEvents();
        promisesOfTime();
        promisesOfMembers();
        promisesOfLetters();
        promisesOfMeetings();
        promisesOfStamps();
        promisesOfEvents();
        wideNumbers();
        everySentenceHasItsTest();
        System.out.println(wrong == 0 ? tests + " sentences hold" : wrong + " answers are not as due");
        if (wrong != 0) {
            System.exit(1);
        }
    }

    // ---- how a run is told ----

    private static void fault(String what) {
        wrong++;
        System.out.println("[" + sentence + "] " + what);
    }

    private static void due(String what, long got, long want) {
        if (got != want) {
            fault(what + " answered " + got + ", due is " + want);
        }
    }

    /** The test of a sentence: where it stands, its words, and runs of calls that would go otherwise without it. */
    private static void test(String where, String words, String... runs) {
        tests++;
        sentence = where + ": " + words;
        QUOTES.computeIfAbsent(where, k -> new ArrayList<>()).add(words);
        for (String run : runs) {
            tell(run);
        }
    }

    private static void tell(String run) {
        ClockCouncil x = new ClockCouncil();
        List<String> made = new ArrayList<>();
        for (String part : run.split("; ")) {
            String[] sides = part.split(" = ");
            long got = answer(x, sides[0]);
            if (sides.length > 1) {
                long want = sides[1].equals("NO") ? NO : Long.parseLong(sides[1]);
                due("after " + told(made) + ": " + sides[0], got, want);
            }
            if (got == NO || !CHANGING.contains(sides[0].split(" ")[0])) {
                changesNothing(made, sides[0]);
            }
            made.add(sides[0]);
        }
        if (made.size() > MOST_CALLS) {
            fault("the run has " + made.size() + " calls");
        }
    }

    private static String told(List<String> made) {
        int from = Math.max(0, made.size() - 12);
        return (from > 0 ? ".. " : "") + String.join("; ", made.subList(from, made.size()));
    }

    private static String times(int n, String part) {
        return String.join("; ", java.util.Collections.nCopies(n, part));
    }

    /** The call n times, each time with an answer that is one more than the last. */
    private static String counting(int from, int to, String call) {
        StringBuilder s = new StringBuilder();
        for (int i = from; i <= to; i++) {
            s.append(i == from ? "" : "; ").append(call).append(" = ").append(i);
        }
        return s.toString();
    }

    private static String runs(String... parts) {
        return String.join("; ", parts);
    }

    /** What the call answers; that it throws is a fault of its own. */
    private static long answer(ClockCouncil x, String call) {
        try {
            return make(x, call);
        } catch (IllegalStateException e) {
            throw e;
        } catch (RuntimeException e) {
            fault(call + " threw " + e);
            return Long.MIN_VALUE;
        }
    }

    private static long make(ClockCouncil x, String call) {
        String[] w = call.split(" ");
        long[] a = new long[3];
        for (int i = 1; i < w.length; i++) {
            a[i - 1] = w[i].equals("true") ? 1 : w[i].equals("false") ? 0 : Long.parseLong(w[i]);
        }
        int i = (int) a[0];
        int j = (int) a[1];
        int k = (int) a[2];
        return switch (w[0]) {
            case "go" -> x.go(i);
            case "member" -> x.member(i, j, k);
            case "rate" -> x.rate(i, j, k);
            case "lie" -> x.lie(i, a[1], a[2]);
            case "rest" -> x.rest(i, a[1] == 1);
            case "counter" -> x.counter(i);
            case "of" -> x.of(i, j);
            case "ask" -> x.ask(i, j);
            case "deliver" -> x.deliver(i);
            case "lose" -> x.lose(i);
            case "twice" -> x.twice(i);
            case "letter" -> x.letter(i, j);
            case "heard" -> x.heard(i, j, k);
            case "votes" -> x.votes(i, a[1]);
            case "council" -> x.council(i, j, k);
            case "meet" -> x.meet(i, j);
            case "lead" -> x.lead(i, j);
            case "stamp" -> x.stamp(i);
            case "given" -> x.given(i, j);
            case "ahead" -> x.ahead(i, j);
            case "wait" -> x.wait(i);
            case "event" -> x.event(i);
            case "link" -> x.link(i, j);
            case "mend" -> x.mend();
            case "order" -> x.order(i);
            case "time" -> x.time(i);
            case "ring" -> x.ring(i);
            case "count" -> x.count(i);
            default -> throw new IllegalStateException("no such call: " + call);
        };
    }

    // ---- that a call changes nothing ----

    private static ClockCouncil after(List<String> calls) {
        ClockCouncil x = new ClockCouncil();
        for (String call : calls) {
            answer(x, call);
        }
        return x;
    }

    /** Two objects, one without and one with the call, must answer the same: at once, and after more has happened. */
    private static void changesNothing(List<String> made, String call) {
        compare(made, call, new ArrayList<>());
        List<String> more = whatMayCome(made);
        if (made.size() + more.size() + 60 < MOST_CALLS) {
            compare(made, call, more);
        }
    }

    private static void compare(List<String> made, String call, List<String> more) {
        List<String> without = new ArrayList<>(made);
        without.addAll(more);
        List<String> with = new ArrayList<>(made);
        with.add(call);
        with.addAll(more);
        List<String> questions = questions(without);
        int room = MOST_CALLS - with.size();
        for (int from = 0; room > 0 && from < questions.size(); from += room) {
            ClockCouncil a = after(without);
            ClockCouncil b = after(with);
            for (String q : questions.subList(from, Math.min(questions.size(), from + room))) {
                due("after " + told(made) + ": " + call + " changed something: " + q, answer(b, q), answer(a, q));
            }
        }
    }

    /** Calls that bring to light what a refused call may have left behind. */
    private static List<String> whatMayCome(List<String> made) {
        ClockCouncil x = after(made);
        long members = x.count(0);
        long letters = Math.min(12, x.count(1));
        List<String> more = new ArrayList<>(List.of("go 7", "member 2 30 4"));
        for (long l = 0; l < letters; l++) {
            more.add("deliver " + l);
        }
        for (long m = 0; m < members; m++) {
            more.add("lead " + m + " 300");
            more.add("stamp " + m);
            more.add("ask " + m + " " + (m == 0 ? 1 : 0));
        }
        more.add("go 3");
        for (long l = 0; l < letters; l++) {
            more.add("deliver " + l);
        }
        for (long m = 0; m < members; m++) {
            more.add("meet " + m + " 1");
            more.add("meet " + m + " 0");
        }
        more.addAll(List.of("event 0", "event 1", "link 0 1", "link 1 2"));
        return more;
    }

    private static List<String> questions(List<String> made) {
        ClockCouncil x = after(made);
        List<String> q = new ArrayList<>();
        ask(q, "count", 7);
        long members = x.count(0);
        for (long m = 0; m < members; m++) {
            q.add("counter " + m);
            ask(q, "of " + m, 9);
            q.add("wait " + m);
            q.add("votes " + m + " " + x.count(6));
            for (long f = 0; f < 3; f++) {
                ask(q, "council " + m + " " + f, 5);
            }
            for (long n = 0; n < members; n++) {
                ask(q, "heard " + m + " " + n, 2);
            }
        }
        for (long l = 0; l < x.count(1); l++) {
            ask(q, "letter " + l, 5);
        }
        for (long s = 0; s < x.count(3); s++) {
            ask(q, "given " + s, 4);
        }
        q.add("mend");
        ask(q, "order", x.count(4));
        ask(q, "time", x.count(4));
        ask(q, "ring", x.count(4));
        return q;
    }

    private static void ask(List<String> q, String call, long whats) {
        for (long what = 0; what < whats; what++) {
            q.add(call + " " + what);
        }
    }

    // ---- that no sentence is left out ----

    /** Each quote stands in the document where it is said to, and the quotes of a promise leave nothing of its refusals. */
    private static void everySentenceHasItsTest() throws Exception {
        sentence = "the document";
        Path path = Path.of("../shared/DOC.md");
        if (!Files.exists(path)) {
            System.out.println("no ../shared/DOC.md beside this checkout: the quotes are not compared with it");
            return;
        }
        String doc = Files.readString(path).replaceAll("\\s+", " ");
        Map<String, String> sections = new LinkedHashMap<>();
        Matcher head = Pattern.compile("## (?:Promise (\\d+)|(Terms)|(What it is)|(The public face)|(Not promised))").matcher(doc);
        int from = -1;
        String name = "";
        while (head.find()) {
            if (from >= 0) {
                sections.put(name, doc.substring(from, head.start()));
            }
            from = head.end();
            name = head.group(1) != null ? head.group(1) : head.group(2) != null ? "Terms" : head.group();
        }
        for (Map.Entry<String, List<String>> e : QUOTES.entrySet()) {
            String where = e.getKey().startsWith("Terms") ? "Terms" : e.getKey();
            String text = where.equals("all") ? doc : sections.getOrDefault(where, "");
            for (String quote : e.getValue()) {
                if (!text.contains(quote)) {
                    fault("section " + where + " does not say: " + quote);
                }
            }
        }
        for (int p = 1; p <= 29; p++) {
            nothingLeft(p, sections.getOrDefault(String.valueOf(p), ""));
        }
    }

    private static void nothingLeft(int p, String text) {
        List<String> quotes = new ArrayList<>(QUOTES.getOrDefault(String.valueOf(p), new ArrayList<>()));
        if (quotes.isEmpty()) {
            fault("promise " + p + " has no test");
        }
        int at = text.indexOf("NO: ");
        if (at < 0) {
            return;
        }
        String left = text.substring(at + 4);
        quotes.sort((a, b) -> b.length() - a.length());
        for (String quote : quotes) {
            left = left.replace(quote, "|");
        }
        left = left.replaceAll("\\bor\\b", "").replaceAll("[|,;.\\s]", "");
        if (!left.isEmpty()) {
            fault("promise " + p + " refuses what has no test: " + left);
        }
    }

    // ---- the terms ----

    private static final String ALL_REFUSED = "go 0 = NO; member 5 0 0 = NO; rate 0 1 1 = NO; lie 0 0 0 = NO; "
        + "rest 0 true = NO; counter 0 = NO; of 0 0 = NO; ask 0 1 = NO; deliver 0 = NO; lose 0 = NO; twice 0 = NO; "
        + "letter 0 0 = NO; heard 0 1 0 = NO; votes 0 0 = NO; council 0 0 0 = NO; meet 0 0 = NO; lead 0 0 = NO; "
        + "stamp 0 = NO; given 0 0 = NO; ahead 0 0 = NO; wait 0 = NO; event 0 = NO; link 0 1 = NO; order 0 = NO; "
        + "time 0 = NO; ring 0 = NO; count 7 = NO";

    private static void theTerms() {
        test("all", "An object is used for at most 512 calls after it has been made",
            runs(times(511, "go 1"), "count 6 = 511"),
            runs(counting(0, 9, "member 2 0 5"), counting(0, 199, "ask 0 1"), counting(0, 99, "stamp 0"),
                counting(0, 29, "event 0"), counting(1, 60, "link 0 1"), times(94, "go 1000000"),
                "member 2 0 0 = NO; ask 0 1 = NO; twice 0 = NO; stamp 0 = NO; event 0 = NO; link 0 1 = NO; count 0 = 10; "
                + "count 1 = 200; count 2 = 200; count 3 = 100; count 4 = 30; count 5 = 60; count 6 = 94000000; mend = 0; "
                + "order 29 = 1; time 1 = -4; deliver 199 = 1; letter 199 4 = 94000005"));
        test("Terms", "NO is what a refused call answers; it changes nothing",
            ALL_REFUSED,
            "member 2 0 5; member 0 0 5; ask 0 1; stamp 0; event 0; event 0; link 0 1; go 0 = NO; member 0 0 -1 = NO; "
            + "rate 0 0 2 = NO; lie 0 1 2 = NO; rest 1 true = NO; ask 1 0 = NO; deliver 1 = NO; lose 1 = NO; twice 1 = NO; "
            + "meet 1 0 = NO; meet 0 1 = NO; lead 0 1001 = NO; stamp 2 = NO; event 1 = NO; link 0 0 = NO");
        test("Terms", "What is wrong is asked in the order in which it is told",
            "member 9 201 -1 = NO; rate 5 0 100001 = NO; lie 5 2000000000000 -2000000000000 = NO; ask 7 7 = NO; "
            + "heard -1 -1 -1 = NO; council 3 -1 9 = NO; meet 3 -1 = NO; lead 3 1001 = NO; link -1 -1 = NO; letter 0 9 = NO",
            "member 0 0 0; rest 0 true = NO; ask 0 0 = NO; meet 0 9 = NO; lie 0 1 0 = NO; go 1; rate 0 0 0 = NO; lead 0 -1 = NO");
        test("Terms", "FLOOR and CEIL of a fraction: the next whole number down and up",
            "member 2 0 10; member 4 0 0; lie 1 -10 -9; ask 0 1; go 2; deliver 0; deliver 0; meet 0 0 = 0; of 0 0 = -8; "
            + "of 0 1 = -7; lead 0 1000 = -8",
            "member 2 150 0; rate 0 7 4; go 1; counter 0 = 1; of 0 0 = 1; of 0 1 = 2; go 1; counter 0 = 3; of 0 0 = 2; of 0 1 = 4");
    }

    private static void termsOfMembers() {
        test("Terms", "TRUE TIME is a number of ticks, 0 at first, that go() alone moves",
            "count 6 = 0; member 2 0 5; member 4 0 0; rate 0 2 1; lie 1 3 4; rest 1 true; rest 1 false; ask 0 1; ask 0 1; "
            + "twice 0; deliver 0; deliver 0; lose 1; meet 0 1; lead 0 5; stamp 0; event 0; event 0; link 0 1; mend; "
            + "order 0; wait 0; count 6 = 0; go 5 = 5; count 6 = 5");
        test("Terms", "MEMBERS are numbered from 0, 10 at most",
            runs(counting(0, 9, "member 2 0 3"), "member 2 0 3 = NO; count 0 = 10; counter 9 = 0; counter 10 = NO; ask 9 10 = NO; "
                + "ask 9 8 = 0; deliver 0 = 1; deliver 0 = 2; heard 9 8 0 = -3; meet 9 0 = 0; of 9 7 = 1; of 8 7 = 1; of 7 7 = 0"));
        test("Terms", "KINDS: 0 PLAIN, 1 HELD, 2 LED, 3 BEST, 4 LYING",
            "member 0 0 3; member 1 0 3; member 2 0 3; member 3 0 3; member 4 0 3; ask 0 1 = NO; ask 1 0 = 0; ask 2 0 = 1; "
            + "ask 3 0 = 2; ask 4 0 = 3; meet 0 0 = NO; meet 1 0 = NO; meet 2 0 = 0; meet 3 0 = 0; meet 4 0 = 0; "
            + "rest 0 false = NO; rest 1 false = 0; rest 2 false = 0; rest 3 false = 0; rest 4 false = 0; lie 0 0 0 = NO; "
            + "lie 1 0 0 = NO; lie 2 0 0 = NO; lie 3 0 0 = NO; lie 4 0 0 = 1; wait 0 = 0; wait 1 = 0; wait 2 = 0; wait 3 = NO; "
            + "wait 4 = 0; of 0 2 = 0; of 1 2 = 1; of 2 2 = 2; of 3 2 = 3; of 4 2 = 4; lead 0 0 = -3; stamp 0 = 0");
        test("Terms", "A member has a DRIFT p (0 to 200, thousandths)",
            "member 2 0 0; member 2 200 0; go 1199; of 0 0 = 1199; of 0 1 = 1199; of 1 0 = 999; of 1 1 = 1499");
        test("Terms", "its COUNTER is FLOOR of (TRUE TIME less that when it came) times up by down",
            "go 3; member 2 0 0; rate 0 3 4; counter 0 = 0; go 1; counter 0 = 0; go 1; counter 0 = 1; go 1; counter 0 = 2; "
            + "go 1; counter 0 = 3; go 1; counter 0 = 3",
            "member 2 0 0; rate 0 1 100000; go 99999; counter 0 = 0; go 1; counter 0 = 1; go 99999; counter 0 = 1; go 1; counter 0 = 2",
            "go 1; member 2 0 0; rate 0 100000 99999; go 99998; counter 0 = 99998; go 1; counter 0 = 100000");
        test("Terms", "(Its RATE may be beyond its DRIFT: it doesn't know.)",
            "member 2 0 3; rate 0 2 1 = 0; go 3; of 0 0 = 3; of 0 5 = 1; go 1; of 0 0 = 5; of 0 5 = 0");
        test("Terms", "AT LEAST FLOOR((d - 1) 1000 by (1000 + p)) + 1",
            "member 2 200 0; of 0 0 = 0; go 1; of 0 0 = 1; go 1; of 0 0 = 1; go 4; of 0 0 = 5; go 1; of 0 0 = 6; go 1; of 0 0 = 6; "
            + "go 1; of 0 0 = 7",
            "member 2 1 0; go 1001; of 0 0 = 1000; go 1; of 0 0 = 1001; go 1; of 0 0 = 1001; go 1; of 0 0 = 1002",
            "member 2 0 0; of 0 0 = 0; go 1; of 0 0 = 1; go 998; of 0 0 = 999");
        test("Terms", "AT MOST CEIL((d + 1) 1000 by (1000 - p)) - 1 ticks have gone, as it knows",
            "member 2 200 0; of 0 1 = 1; go 1; of 0 1 = 2; go 1; of 0 1 = 3; go 1; of 0 1 = 4; go 1; of 0 1 = 6; go 1; of 0 1 = 7",
            "member 2 1 0; of 0 1 = 1; go 997; of 0 1 = 998; go 1; of 0 1 = 999; go 1; of 0 1 = 1001",
            "member 2 0 0; of 0 1 = 0; go 1; of 0 1 = 1; go 998; of 0 1 = 999");
        test("Terms", "It knows a SPAN, LOW to HIGH, as of a COUNTER: NOW this is LOW and what has gone AT LEAST since, "
            + "to HIGH and what has gone AT MOST",
            "member 2 200 9; go 6; of 0 0 = -4; of 0 1 = 17; meet 0 0 = 0; of 0 0 = -4; of 0 1 = 18; go 7; of 0 0 = 2; of 0 1 = 26");
        test("Terms", "A BEST one has another SPAN: TRUE TIME less its NEARNESS to TRUE TIME and its NEARNESS",
            "member 3 200 0; member 3 0 100000; rate 0 100000 1; of 0 0 = 0; of 0 1 = 0; of 1 0 = -100000; go 1000000; "
            + "of 0 0 = 1000000; of 0 1 = 1000000; of 0 5 = 1; of 1 0 = 900000; of 1 1 = 1100000");
        test("Terms", "What a LYING one ANSWERS is what it was told to; others ANSWER their SPAN NOW",
            "member 2 0 0; member 0 0 1; member 1 0 2; member 2 0 3; member 3 0 4; member 4 0 5; lie 5 -7 70; ask 0 1; ask 0 2; "
            + "ask 0 3; ask 0 4; ask 0 5; go 10; deliver 0; deliver 1; deliver 2; deliver 3; deliver 4; letter 0 3 = 9; "
            + "letter 0 4 = 11; letter 1 3 = 8; letter 1 4 = 12; letter 2 3 = 7; letter 2 4 = 13; letter 3 3 = 6; "
            + "letter 3 4 = 14; letter 4 3 = -7; letter 4 4 = 70; of 5 0 = 5; of 5 1 = 15");
        test("Terms", "A member can REST (a PLAIN one can not)",
            "member 0 0 0; member 1 0 0; member 2 0 0; member 3 0 0; member 4 0 0; rest 0 true = NO; of 0 3 = 0; rest 1 true = 0; "
            + "of 1 3 = 1; rest 2 true = 0; of 2 3 = 1; rest 3 true = 0; of 3 3 = 1; rest 4 true = 0; of 4 3 = 1");
        test("Terms", "one that RESTS doesn't ask, and letters that come to it are LOST; its COUNTER goes on",
            "member 2 0 0; member 2 0 0; ask 0 1; ask 1 0; ask 1 0; deliver 2 = 1; rest 1 true; ask 1 0 = NO; go 4; counter 1 = 4; "
            + "of 1 0 = 4; deliver 0 = 0; letter 0 2 = 3; deliver 1 = 1; deliver 1 = 0; letter 1 2 = 3; deliver 2 = 0; "
            + "letter 2 2 = 3; of 1 8 = 0; rest 1 false = 1; deliver 0 = NO; deliver 2 = NO; ask 1 0 = 3; ask 0 1 = 4; deliver 4 = 1");
    }

    private static void termsOfLetters() {
        test("Terms", "LETTERS are numbered from 0, 200 at most",
            runs("member 2 0 0; member 2 0 0", counting(0, 99, "ask 0 1"), counting(100, 199, "twice 0"),
                "ask 0 1 = NO; twice 0 = NO; count 1 = 200; letter 199 2 = 0; letter 200 2 = NO; deliver 199 = 1; lose 199 = 1; "
                + "lose 0 = 1; ask 0 1 = NO; twice 1 = NO; count 1 = 200; count 2 = 198"));
        test("Terms", "One is UNDER WAY to whom it asks, then, with an ANSWER, UNDER WAY back, then GOT; or LOST",
            "member 2 0 0; member 2 0 4; ask 0 1; letter 0 2 = 0; letter 0 3 = NO; letter 0 4 = NO; of 0 8 = 0; deliver 0 = 1; "
            + "letter 0 2 = 1; letter 0 3 = -4; letter 0 4 = 4; of 0 8 = 0; deliver 0 = 2; letter 0 2 = 2; letter 0 3 = -4; "
            + "of 0 8 = 1; deliver 0 = NO; lose 0 = NO; twice 0 = NO; ask 0 1; lose 1 = 1; letter 1 2 = 3; deliver 1 = NO; "
            + "ask 0 1; deliver 2; lose 2 = 1; letter 2 2 = 3; letter 2 3 = -4; deliver 2 = NO; twice 2 = NO; lose 2 = NO");
        test("Terms", "When a letter comes to whom it asks it takes what that one ANSWERS at that time",
            "member 2 0 0; member 4 0 0; member 2 0 2; lie 1 1 2; ask 0 1; ask 0 2; lie 1 3 4; go 6; deliver 0; deliver 1; "
            + "lie 1 5 6; go 5; letter 0 3 = 3; letter 0 4 = 4; letter 1 3 = 4; letter 1 4 = 8; deliver 0; deliver 1; "
            + "heard 0 1 0 = 3; heard 0 1 1 = 15; heard 0 2 0 = 4; heard 0 2 1 = 19");
        test("Terms", "d being how much the asker's COUNTER has gone on since it asked",
            "member 2 0 0; rate 0 2 1; member 3 0 1; rate 1 9 1; go 5; ask 0 1 = 0; go 2; deliver 0 = 1; letter 0 3 = 6; letter 0 4 = 8; "
            + "go 3; deliver 0 = 2; heard 0 1 0 = 6; heard 0 1 1 = 18",
            "member 2 200 0; member 3 0 1; ask 0 1; deliver 0; deliver 0; heard 0 1 0 = -1; heard 0 1 1 = 3",
            "member 2 200 0; member 3 100 1; ask 0 1; go 3; deliver 0; deliver 0; heard 0 1 0 = 2; heard 0 1 1 = 9");
        test("Terms", "the asker has a HEARD span of that member, as of its COUNTER then",
            "member 2 200 0; member 3 0 1; ask 0 1; deliver 0; deliver 0; go 3; heard 0 1 0 = 1; heard 0 1 1 = 6; of 0 8 = 1; "
            + "of 1 8 = 0; heard 1 0 0 = NO");
        test("Terms", "in place of an older one of that member",
            "member 2 0 0; member 4 0 0; member 4 0 0; lie 1 5 6; ask 0 1; ask 0 1; ask 0 2; deliver 0; deliver 0; of 0 8 = 1; "
            + "heard 0 1 0 = 5; lie 1 8 9; deliver 1; deliver 1; of 0 8 = 1; heard 0 1 0 = 8; heard 0 1 1 = 9; lie 2 1 1; "
            + "deliver 2; deliver 2; of 0 8 = 2; heard 0 1 0 = 8; heard 0 2 0 = 1; heard 0 2 1 = 1",
            "member 2 0 0; member 4 0 0; ask 0 1; ask 0 1; lie 1 5 6; deliver 0; lie 1 8 9; deliver 1; deliver 1; deliver 0; "
            + "of 0 8 = 1; heard 0 1 0 = 5; heard 0 1 1 = 6");
        test("Terms", "HEARD spans NOW are, as in 1, LOW and what has gone AT LEAST, HIGH and AT MOST since they were HEARD",
            "member 2 200 0; member 4 0 0; lie 1 10 20; ask 0 1; deliver 0; deliver 0; heard 0 1 0 = 10; heard 0 1 1 = 22; go 1; "
            + "heard 0 1 0 = 11; heard 0 1 1 = 23; go 2; heard 0 1 0 = 12; heard 0 1 1 = 25; go 1; heard 0 1 0 = 13; heard 0 1 1 = 27; "
            + "go 3; heard 0 1 0 = 16; heard 0 1 1 = 30");
    }

    /** Member 0 (0 to 20 at time 10, without drift) hears of one LYING member after the other, each with its lie. */
    private static String meeting(int kind, long... lies) {
        StringBuilder s = new StringBuilder("go 10; member " + kind + " 0 10");
        for (int i = 0; i < lies.length; i += 2) {
            int n = i / 2 + 1;
            s.append("; member 4 0 0; lie ").append(n).append(' ').append(lies[i]).append(' ').append(lies[i + 1]);
            s.append("; ask 0 ").append(n).append(times(2, "; deliver " + (n - 1)).replace("; ; ", "; "));
        }
        return s.toString();
    }

    private static void termsOfMeetings() {
        test("Terms", "n - f or more of them have (ends included) make PIECES",
            meeting(2, 20, 30) + "; council 0 0 1 = 1; council 0 0 2 = 20; council 0 0 3 = 20; council 0 0 4 = 0; votes 0 20 = 2",
            meeting(2, 21, 30) + "; council 0 0 1 = 0; council 0 0 2 = NO; council 0 1 1 = 1",
            meeting(2, -5, 0) + "; council 0 0 1 = 1; council 0 0 2 = 0; council 0 0 3 = 0; votes 0 0 = 2",
            meeting(2, -5, -1) + "; council 0 0 1 = 0; council 0 0 3 = NO",
            meeting(2, 5, 8, 6, 7) + "; council 0 1 1 = 1; council 0 1 2 = 5; council 0 1 3 = 8; council 0 0 2 = 6; council 0 0 3 = 7; "
            + "council 0 2 2 = 0; council 0 2 3 = 20",
            meeting(2, 0, 20, 0, 20) + "; council 0 0 2 = 0; council 0 1 1 = 1; council 0 1 2 = 0; council 0 1 3 = 20; council 0 2 2 = 0; council 0 2 3 = 20");
        test("Terms", "(times that follow one another are one PIECE)",
            meeting(2, 21, 25) + "; council 0 1 1 = 1; council 0 1 2 = 0; council 0 1 3 = 25",
            meeting(2, 22, 25) + "; council 0 1 1 = 2; council 0 1 2 = 0; council 0 1 3 = 25",
            meeting(2, 2, 4, 5, 7) + "; council 0 1 1 = 1; council 0 1 2 = 2; council 0 1 3 = 7",
            meeting(2, 2, 4, 6, 7) + "; council 0 1 1 = 2; council 0 1 2 = 2; council 0 1 3 = 7",
            meeting(2, 4, 4, 4, 4) + "; council 0 0 1 = 1; council 0 1 1 = 1; council 0 2 1 = 1",
            meeting(2, 0, 0, 2, 2, 4, 4, 6, 6, 8, 8, 10, 10, 12, 12, 14, 14, 16, 16) + "; council 0 8 1 = 9; council 0 9 1 = 1");
        test("Terms", "THE COUNCIL's span goes from the least to the greatest such time",
            meeting(2, 0, 2, 18, 20) + "; council 0 1 1 = 2; council 0 1 2 = 0; council 0 1 3 = 20; meet 0 1 = 0; of 0 0 = 0; of 0 1 = 20",
            meeting(2, -5, 10, 10, 25) + "; council 0 2 2 = -5; council 0 2 3 = 25; council 0 1 2 = 0; council 0 1 3 = 20",
            meeting(2, 10, 25, -5, 10) + "; council 0 2 2 = -5; council 0 2 3 = 25; council 0 1 2 = 0; council 0 1 3 = 20",
            meeting(2, 3, 4, 1, 2, 15, 16, 12, 13) + "; council 0 3 1 = 3; council 0 3 2 = 1; council 0 3 3 = 16; council 0 4 2 = 0");
        test("Terms", "there is none if no time is so",
            meeting(2, 5, 8, 20, 30) + "; council 0 0 0 = 3; council 0 0 1 = 0; council 0 0 2 = NO; council 0 0 3 = NO; "
            + "council 0 0 4 = NO; meet 0 0 = NO; council 0 1 2 = 5",
            meeting(2, 5, 8, 30, 40, 50, 60) + "; council 0 1 2 = NO; meet 0 1 = NO; council 0 2 2 = 5; meet 0 2 = 12");
        test("Terms", "LIARS are those members (itself, too) whose span has no time in common with it",
            meeting(2, 5, 8, 5, 8, 8, 30) + "; council 0 1 4 = 0; meet 0 1 = 0; of 3 6 = 0",
            meeting(2, 5, 8, 5, 8, 9, 30) + "; council 0 1 4 = 8; meet 0 1 = 8; of 3 6 = 1; of 0 6 = 0",
            meeting(2, 5, 8, 5, 8, -4, 5) + "; council 0 1 4 = 0; meet 0 1 = 0; of 3 6 = 0",
            meeting(2, 5, 8, 5, 8, -4, 4) + "; council 0 1 4 = 8; meet 0 1 = 8; of 3 6 = 1",
            meeting(2, 0, 2, 0, 2, 18, 20, 18, 20, 9, 10) + "; council 0 3 1 = 2; council 0 3 4 = 0",
            meeting(2, 100, 110, 105, 110) + "; council 0 1 4 = 1; meet 0 1 = 1; of 0 6 = 1; of 1 6 = 0; of 2 6 = 0",
            meeting(2, 5, 8, 5, 8, 5, 8, 5, 8, 5, 8, 5, 8, 5, 8, 5, 8, 9, 9) + "; council 0 1 4 = 512; meet 0 1 = 512; of 9 6 = 1");
    }

    private static void termsOfLeading() {
        test("Terms", "SHOWN is a clock of each member, its LOW when it came",
            "go 5; member 0 0 100000; of 0 4 = -99995; member 3 0 2; of 1 4 = 3; member 4 200 0; of 2 4 = 5; go 9; of 0 4 = -99995; "
            + "of 1 4 = 3; of 2 4 = 5");
        test("Terms", "with d being how much the COUNTER has gone on since it was led (or came)",
            "go 4; member 2 0 0; rate 0 2 1; lead 0 1000 = 4; go 5; lead 0 0 = 14; lead 0 0 = 14; lead 0 1000 = 14; go 1; lead 0 0 = 16; "
            + "rest 0 true; go 2; lead 0 0 = NO; rest 0 false; lead 0 0 = 20");
        test("Terms", "s FLOOR(d lead by 1000)",
            "member 2 0 100; go 9; lead 0 111 = -91",
            "member 2 0 100; go 9; lead 0 112 = -90",
            "member 2 0 100; go 9; lead 0 222 = -90",
            "member 2 0 100; go 9; lead 0 1000 = -82",
            "member 2 0 100; go 9; lead 0 0 = -91");
        test("Terms", "(FLOOR of half of LOW and HIGH together)",
            meeting(2, -204, -201, -204, -201) + "; meet 0 1 = 1; go 400; of 0 0 = 196; of 0 1 = 199; lead 0 1000 = 197",
            "member 2 0 10; member 4 0 0; lie 1 -10 -9; ask 0 1; go 2; deliver 0; deliver 0; meet 0 0; of 0 0 = -8; of 0 1 = -7; "
            + "lead 0 1000 = -8");
        String behind = meeting(2, -40, -20, -40, -20) + "; meet 0 1 = 1; go 100; of 0 0 = 60; of 0 1 = 80; ";
        test("Terms", "but by d - s at least and by d + s at most",
            "member 2 0 10; go 100; lead 0 99 = 99",
            "member 2 0 10; go 100; lead 0 100 = 100",
            "member 2 0 10; go 100; lead 0 110 = 100",
            behind + "lead 0 0 = 100",
            behind + "lead 0 299 = 71",
            behind + "lead 0 300 = 70",
            behind + "lead 0 310 = 70",
            behind + "lead 0 1000 = 70",
            meeting(2, -400, -200, -400, -200) + "; meet 0 1 = 1; go 100; lead 0 1000 = 0; of 0 4 = 0");
        test("Terms", "STAMPS are spans that were given out, numbered from 0, 100 at most",
            runs("member 2 0 3", counting(0, 98, "stamp 0"), "go 1; stamp 0 = 99; stamp 0 = NO; count 3 = 100; given 99 0 = -2; "
                + "given 98 0 = -3; given 100 0 = NO; event 99 = 0; event 100 = NO; ahead 0 99 = 0; ahead 99 100 = NO"));
    }

    /** So many events of the same span 0 to 0. */
    private static String events(int n) {
        return "member 2 0 0; stamp 0" + (n > 0 ? "; " + times(n, "event 0") : "");
    }

    private static String chain(int from, int to) {
        StringBuilder s = new StringBuilder();
        for (int e = from; e < to; e++) {
            s.append(e == from ? "" : "; ").append("link ").append(e).append(' ').append(e + 1);
        }
        return s.toString();
    }

    private static void termsOfEvents() {
        test("Terms", "EVENTS are numbered from 0, 30 at most; each has a STAMP's span",
            runs("member 2 0 3; stamp 0; go 9; stamp 0", counting(0, 28, "event 0"), "event 1 = 29; event 1 = NO; count 4 = 30; "
                + "time 28 = -3; time 29 = 6; time 30 = NO; order 29 = 29; order 30 = NO; link 29 30 = NO; link 29 0 = 1; mend = 2; "
                + "order 29 = 0; link 0 29 = 2; ring 0 = 0; ring 1 = 29; ring 2 = -1"));
        test("Terms", "LINKS, 60 at most: one event must come ahead of another one",
            runs(events(30), chain(0, 29), counting(30, 60, "link 0 29"), "link 0 29 = NO; link 29 0 = NO; count 5 = 60; mend = 15; "
                + "ring 0 = NO"));
        String later = "member 2 0 3; stamp 0; go ";
        String turned = "; stamp 0; event 1; event 0; link 0 1; ";
        test("Terms", "With a WIDENING w a TIME of each event is a whole number from its LOW - w to its HIGH + w",
            later + 5 + turned + "mend = 0; time 0 = 2; time 1 = 3",
            later + 6 + turned + "mend = 1; time 0 = 2; time 1 = 3",
            later + 7 + turned + "mend = 1; time 0 = 3; time 1 = 4",
            later + 8 + turned + "mend = 2; time 0 = 3; time 1 = 4",
            later + 9 + turned + "mend = 2; time 0 = 4; time 1 = 5");
        test("Terms", "TIMES are RIGHT if over each LINK the TIME rises",
            runs(events(3), "link 0 1; mend = 1; time 0 = -1; time 1 = 0; time 2 = -1; link 1 2; mend = 1; time 2 = 1"),
            "member 2 0 5; stamp 0; event 0; event 0; link 1 0; mend = 0; time 1 = -5; time 0 = -4");
        test("Terms", "MEND is the least w (0 or more) for which there are such",
            "mend = 0",
            runs(events(2), "mend = 0; time 0 = 0; link 0 1; mend = 1"),
            runs(events(30), chain(0, 29), "mend = 15; time 0 = -15; time 29 = 14"),
            runs(events(29), chain(0, 28), "mend = 14; time 0 = -14; time 28 = 14"),
            "member 2 0 0; stamp 0; go 9; stamp 0; event 0; event 1; link 0 1; mend = 0; time 1 = 9");
        test("Terms", "there is none if LINKS make a RING",
            runs(events(2), "link 0 1; mend = 1; link 1 0; mend = -1; time 0 = NO; order 0 = NO; ring 0 = 0"),
            runs(events(30), chain(0, 29), "mend = 15; link 29 0; mend = -1; ring 29 = 29; ring 30 = -1"),
            runs(events(4), "link 0 1; link 0 1; link 0 2; link 1 3; link 2 3; mend = 1; ring 0 = NO"),
            runs(events(5), "link 2 3; link 3 4; link 4 2; mend = -1; order 0 = NO; time 0 = NO"));
        test("Terms", "of the RIGHT TIMES the least of each event",
            "member 2 0 100; stamp 0; go 50; stamp 0; event 1; event 0; event 0; link 0 1; mend = 0; time 0 = -50; time 1 = -49; "
            + "time 2 = -100");
        test("Terms", "the events by rising TIMES, of the same by rising numbers",
            runs(events(30), "order 0 = 0; order 1 = 1; order 28 = 28; order 29 = 29"),
            "member 2 0 0; stamp 0; go 5; stamp 0; event 1; event 0; event 1; event 0; order 0 = 1; order 1 = 3; order 2 = 0; order 3 = 2; "
            + "order 4 = NO",
            runs(events(3), "link 2 0; order 0 = 1; order 1 = 2; order 2 = 0"));
    }

    // ---- the promises ----

    private static void promisesOfTime() {
        test("1", "TRUE TIME 0, no members, letters, stamps, events",
            "count 6 = 0; count 0 = 0; count 1 = 0; count 2 = 0; count 3 = 0; count 4 = 0; count 5 = 0; counter 0 = NO; letter 0 0 = NO; "
            + "given 0 0 = NO; time 0 = NO; order 0 = NO; ring 0 = NO; mend = 0",
            "member 0 0 0 = 0", "stamp 0 = NO; event 0 = NO; ask 0 1 = NO; link 0 1 = NO");
        test("2", "TRUE TIME goes on by so many ticks: what it is then", "go 3 = 3; go 4 = 7; count 6 = 7; go 1000000 = 1000007");
        test("2", "n is not 1..1000000",
            "go 0 = NO; go -1 = NO; go -2147483648 = NO; go 1000001 = NO; go 2147483647 = NO; count 6 = 0; go 1 = 1; go 1000000 = 1000001; "
            + "go 0 = NO; go 1000001 = NO; count 6 = 1000001");
        test("2", "it would be above 1000000000");
        topOfTrueTime();
    }

    /** No 512 calls lead so far; what the class does there is kept all the same. */
    private static void topOfTrueTime() {
        ClockCouncil x = new ClockCouncil();
        for (int i = 1; i <= 999; i++) {
            x.go(1000000);
        }
        due("go(999999)", x.go(999999), 999999999L);
        due("go(2)", x.go(2), NO);
        due("go(1000000)", x.go(1000000), NO);
        due("count(6)", x.count(6), 999999999L);
        due("go(1)", x.go(1), 1000000000L);
        due("go(1)", x.go(1), NO);
        due("count(6)", x.count(6), 1000000000L);
    }

    private static void promisesOfMembers() {
        test("3", "A new member, whose SPAN is TRUE TIME less e to TRUE TIME and e: its number",
            "member 2 0 0 = 0; of 0 0 = 0; of 0 1 = 0; member 2 0 100000 = 1; of 1 0 = -100000; of 1 1 = 100000; go 7; member 2 0 1 = 2; "
            + "of 2 0 = 6; of 2 1 = 8");
        test("3", "Its RATE is 1 by 1", "go 5; member 2 0 0; go 1; counter 0 = 1; go 999999; counter 0 = 1000000");
        test("3", "the NEARNESS of a BEST one is e", "go 5; member 3 0 0; member 3 200 100000; go 5; of 0 0 = 10; of 0 1 = 10; "
            + "of 1 0 = -99990; of 1 1 = 100010");
        test("3", "a LYING one ANSWERS 0 to 0 at first", "go 50; member 4 0 7; member 2 0 0; ask 1 0; deliver 0; letter 0 3 = 0; letter 0 4 = 0");
        test("3", "there is no such KIND", "member -1 0 0 = NO; member 5 0 0 = NO; member -2147483648 0 0 = NO; "
            + "member 2147483647 0 0 = NO; count 0 = 0; member 0 0 0 = 0; member 4 0 0 = 1; member 5 0 0 = NO; count 0 = 2");
        test("3", "p is not 0..200", "member 2 -1 0 = NO; member 2 201 0 = NO; member 2 -2147483648 0 = NO; member 2 2147483647 0 = NO; "
            + "member 2 1000 0 = NO; count 0 = 0; member 2 0 0 = 0; member 2 200 0 = 1; of 1 1 = 1");
        test("3", "e not 0..100000", "member 2 0 -1 = NO; member 2 0 100001 = NO; member 2 0 -2147483648 = NO; member 2 0 2147483647 = NO; "
            + "count 0 = 0; member 2 0 0 = 0; member 2 0 100000 = 1; of 1 1 = 100000");
        test("3", "there are 10", runs(counting(0, 9, "member 1 0 0"), "member 1 0 0 = NO; member 3 9 9 = NO; go 1; member 1 0 0 = NO; "
            + "count 0 = 10; of 9 2 = 1; of 10 2 = NO"));
        test("4", "The RATE of a member that came at this TRUE TIME (no tick has gone since)",
            "go 9; member 2 0 0; rate 0 3 1; rate 0 2 1 = 0; go 2; counter 0 = 4; member 2 0 0; rate 1 1 2; rate 0 1 1 = NO; go 2; counter 1 = 1; "
            + "counter 0 = 8");
        test("4", "1 if it is within its DRIFT (no more than p thousandths from 1), else 0",
            "member 2 10 0; rate 0 1010 1000 = 1; rate 0 1011 1000 = 0; rate 0 990 1000 = 1; rate 0 989 1000 = 0; rate 0 1 1 = 1; "
            + "rate 0 1001 991 = 0; rate 0 101 100 = 1; rate 0 100000 99010 = 1; rate 0 100000 99009 = 0",
            "member 2 0 0; rate 0 1 1 = 1; rate 0 100000 100000 = 1; rate 0 100000 99999 = 0; rate 0 99999 100000 = 0",
            "member 2 200 0; rate 0 6 5 = 1; rate 0 4 5 = 1; rate 0 60001 50000 = 0; rate 0 39999 50000 = 0; rate 0 5 6 = 1; rate 0 5 4 = 0; "
            + "rate 0 100000 1 = 0; rate 0 1 100000 = 0");
        test("4", "there is no such member", "rate 0 1 1 = NO; member 2 0 0; rate -1 2 1 = NO; rate 1 2 1 = NO; rate 2147483647 2 1 = NO; "
            + "rate -2147483648 2 1 = NO; go 1; counter 0 = 1");
        test("4", "up or down is not 1..100000", "member 2 0 0; rate 0 0 1 = NO; rate 0 1 0 = NO; rate 0 -1 1 = NO; rate 0 1 -1 = NO; "
            + "rate 0 100001 1 = NO; rate 0 1 100001 = NO; rate 0 -1 -1 = NO; rate 0 -2147483648 -2147483648 = NO; "
            + "rate 0 2147483647 2147483647 = NO; go 1; counter 0 = 1; member 2 0 0; rate 1 1 1 = 1; rate 1 100000 100000 = 1; "
            + "rate 1 100000 1 = 0; rate 1 1 100000 = 0");
        test("4", "a tick has gone", "member 2 0 0; rate 0 2 1 = 0; go 1; rate 0 3 1 = NO; rate 0 1 1 = NO; counter 0 = 2; member 2 0 0; "
            + "rate 1 3 1 = 0; rate 0 1 1 = NO; go 1000000; rate 1 1 1 = NO; counter 1 = 3000000");
        promisesOfLyingAndResting();
        promiseOf();
    }

    private static void promisesOfLyingAndResting() {
        String most = "1000000000000";
        String ask = "; ask 1 0; deliver 0; letter 0 3 = ";
        test("5", "A LYING member ANSWERS low to high from now on: 1", "member 4 0 0; member 2 0 0; lie 0 7 7 = 1" + ask + "7; letter 0 4 = 7; "
            + "lie 0 -9 -8 = 1; letter 0 3 = 7; ask 1 0; deliver 1; letter 1 3 = -9; letter 1 4 = -8; go 5; ask 1 0; deliver 2; letter 2 3 = -9");
        test("5", "there is no such member", "lie 0 0 0 = NO; member 4 0 0; lie 1 1 2 = NO; member 2 0 0; member 4 0 0; lie 3 1 2 = NO; lie -1 1 2 = NO; lie -2 1 2 = NO; "
            + "lie 10 1 2 = NO; lie -2147483648 1 2 = NO" + ask + "0; letter 0 4 = 0");
        test("5", "it is no LYING one", "member 0 0 0; member 1 0 0; member 2 0 0; member 3 0 0; lie 0 5 9 = NO; lie 1 5 9 = NO; lie 2 5 9 = NO; "
            + "lie 3 5 9 = NO; ask 1 0; ask 1 2; ask 1 3; deliver 0; deliver 1; deliver 2; letter 0 4 = 0; letter 1 4 = 0; letter 2 4 = 0");
        test("5", "high is below low", "member 4 0 0; member 2 0 0; lie 0 1 0 = NO; lie 0 -1 -2 = NO; lie 0 " + most + " -" + most + " = NO" + ask
            + "0; lie 0 1 1 = 1; lie 0 2 1 = NO; ask 1 0; deliver 1; letter 1 3 = 1; letter 1 4 = 1");
        test("5", "one of them is not -1000000000000..1000000000000",
            "member 4 0 0; member 2 0 0; lie 0 -1000000000001 0 = NO; lie 0 0 1000000000001 = NO; lie 0 1000000000001 1000000000001 = NO; "
            + "lie 0 -1000000000001 -1000000000001 = NO; lie 0 -9223372036854775808 9223372036854775807 = NO; "
            + "lie 0 -9223372036854775808 -9223372036854775808 = NO; lie 0 9223372036854775807 9223372036854775807 = NO" + ask + "0; "
            + "lie 0 -" + most + " " + most + " = 1; ask 1 0; deliver 1; letter 1 3 = -" + most + "; letter 1 4 = " + most + "; lie 0 " + most + " "
            + most + " = 1; lie 0 -" + most + " -" + most + " = 1; ask 1 0; deliver 2; letter 2 3 = -" + most + "; letter 2 4 = -" + most);
        test("6", "A member RESTS, or not: 1 if it did, else 0", "member 2 0 0; of 0 3 = 0; rest 0 false = 0; rest 0 true = 0; of 0 3 = 1; "
            + "rest 0 true = 1; of 0 3 = 1; rest 0 false = 1; of 0 3 = 0; rest 0 false = 0");
        test("6", "there is no such member", "rest 0 true = NO; member 2 0 0; rest 1 true = NO; member 2 0 0; rest -1 true = NO; rest 2 true = NO; rest 10 true = NO; "
            + "rest 2147483647 false = NO; of 0 3 = 0; rest 0 true = 0; rest 2 false = NO; of 0 3 = 1; of 1 3 = 0");
        test("6", "it is PLAIN", "member 0 0 0; rest 0 true = NO; rest 0 false = NO; of 0 3 = 0; lead 0 0 = 0; member 1 0 0; rest 1 true = 0");
        test("7", "The COUNTER of a member", "member 0 0 0; counter 0 = 0; go 1; counter 0 = 1; member 0 0 0; counter 1 = 0; counter 0 = 1");
        test("7", "there is no such member", "counter 0 = NO; member 0 0 0; counter 0 = 0; counter 1 = NO; member 0 0 0; counter -1 = NO; counter 2 = NO; "
            + "counter 2147483647 = NO; counter -2147483648 = NO");
    }

    private static void promiseOf() {
        test("8", "1 if TRUE TIME is in its SPAN NOW, else 0 (5)",
            "member 2 0 3; rate 0 2 1; of 0 5 = 1; go 3; of 0 0 = 3; of 0 5 = 1; go 1; of 0 0 = 5; of 0 5 = 0",
            "member 2 0 2; rate 0 1 2; go 4; of 0 1 = 4; of 0 5 = 1; go 1; of 0 1 = 4; of 0 5 = 0",
            "member 2 0 0; of 0 5 = 1; go 9; of 0 5 = 1; member 3 0 0; go 1; of 1 5 = 1");
        test("8", "in how many MEETINGS it was a LIAR (6)", meeting(2, 5, 8, 40, 40) + "; council 0 1 4 = 4; of 2 6 = 0; meet 0 0 = NO; "
            + "of 2 6 = 0; meet 0 1 = 4; of 2 6 = 1; of 1 6 = 0; of 0 6 = 0; meet 0 0 = 0; of 2 6 = 1; ask 0 2; deliver 2; deliver 2; "
            + "meet 0 1 = 0; of 2 6 = 1; ask 0 2; deliver 3; deliver 3; ask 0 1; deliver 4; deliver 4; lie 2 90 90; meet 0 0 = NO; of 2 6 = 1");
        test("8", "in how many it was one of those whose spans met (7)", meeting(2, 5, 8, 40, 40) + "; member 2 0 0; of 0 7 = 0; of 1 7 = 0; "
            + "council 0 1 0 = 3; votes 0 6 = 2; meet 0 0 = NO; of 0 7 = 0; meet 0 1 = 4; of 0 7 = 1; of 1 7 = 1; of 2 7 = 1; of 3 7 = 0; "
            + "meet 0 0 = 0; of 0 7 = 2; of 1 7 = 1; of 2 7 = 1");
        test("8", "how many HEARD spans it has (8)", meeting(2, 1, 1, 2, 2, 3, 3, 4, 4, 5, 5, 6, 6, 7, 7, 8, 8, 9, 9) + "; of 0 8 = 9; of 1 8 = 0; "
            + "meet 0 8 = 0; of 0 8 = 0; ask 0 1; deliver 9; of 0 8 = 0; deliver 9; of 0 8 = 1",
            "member 0 0 0; member 2 0 9; of 1 8 = 0; ask 1 0; deliver 0; deliver 0; of 1 8 = 1; of 0 8 = 0; meet 1 0 = 0; of 1 8 = 0");
        test("8", "there is no such member or what", "of 0 0 = NO; member 2 0 5; of 0 -1 = NO; of 0 9 = NO; of 0 -2147483648 = NO; "
            + "of 0 2147483647 = NO; of 1 0 = NO; of -1 0 = NO; of 10 0 = NO; of 2147483647 8 = NO; of 0 0 = -5; of 0 1 = 5; of 0 2 = 2; of 0 3 = 0; "
            + "of 0 4 = -5; of 0 5 = 1; of 0 6 = 0; of 0 7 = 0; of 0 8 = 0");
    }

    private static void promisesOfLetters() {
        String two = "member 2 0 1; member 2 0 2; ";
        test("9", "A letter from a member to another one: its number", two + "ask 0 1 = 0; ask 1 0 = 1; letter 0 0 = 0; letter 0 1 = 1; letter 1 0 = 1; "
            + "letter 1 1 = 0; count 1 = 2; count 2 = 2");
        test("9", "one is none", "ask 0 1 = NO; " + two + "ask 0 2 = NO; ask 2 0 = NO; ask 0 -1 = NO; ask -1 0 = NO; ask 0 10 = NO; ask 10 0 = NO; "
            + "ask 2147483647 0 = NO; ask 0 -2147483648 = NO; count 1 = 0; ask 0 1 = 0");
        test("9", "they are the same", two + "ask 0 0 = NO; ask 1 1 = NO; count 1 = 0; ask 1 0 = 0");
        test("9", "the asker is PLAIN or RESTS", two + "member 0 0 0; ask 2 0 = NO; ask 0 2 = 0; rest 0 true; ask 0 1 = NO; ask 1 0 = 1; rest 0 false; "
            + "ask 0 1 = 2; count 1 = 3");
        test("9", "there are 200", runs(two + counting(0, 199, "ask 0 1"), "ask 0 1 = NO; ask 1 0 = NO; lose 7; ask 0 1 = NO; count 1 = 200; letter 200 0 = NO"));
        test("10", "1 to whom it asks, 2 back to the asker; 0 when it is LOST because that one RESTS", two + "ask 0 1; ask 0 1; ask 0 1; deliver 0 = 1; "
            + "deliver 0 = 2; deliver 1 = 1; rest 0 true; deliver 1 = 0; letter 1 2 = 3; deliver 2 = 1; rest 0 false; rest 1 true; deliver 2 = 2; ask 0 1; "
            + "deliver 3 = 0; letter 3 2 = 3; letter 3 3 = NO; count 2 = 0");
        test("10", "there is no such letter", "deliver 0 = NO; " + two + "deliver 0 = NO; ask 0 1; deliver 1 = NO; deliver -1 = NO; deliver 200 = NO; "
            + "deliver 2147483647 = NO; deliver -2147483648 = NO; letter 0 2 = 0; deliver 0 = 1");
        test("10", "it is not UNDER WAY", two + "ask 0 1; deliver 0; deliver 0 = 2; go 5; deliver 0 = NO; heard 0 1 1 = 7; ask 0 1; lose 1; deliver 1 = NO; "
            + "letter 1 2 = 3; ask 0 1; rest 1 true; deliver 2 = 0; rest 1 false; deliver 2 = NO; letter 2 2 = 3");
        test("11", "A letter that is UNDER WAY is LOST: 1", two + "ask 0 1; ask 0 1; deliver 1; lose 0 = 1; letter 0 2 = 3; lose 1 = 1; letter 1 2 = 3; "
            + "count 2 = 0; count 1 = 2");
        test("11", "there is no such letter", "lose 0 = NO; " + two + "lose 0 = NO; ask 0 1; lose 1 = NO; lose -1 = NO; lose 200 = NO; lose 2147483647 = NO; "
            + "lose -2147483648 = NO; letter 0 2 = 0; lose 0 = 1");
        test("11", "it is not UNDER WAY", two + "ask 0 1; lose 0 = 1; lose 0 = NO; ask 0 1; deliver 1; deliver 1; lose 1 = NO; letter 1 2 = 2; of 0 8 = 1; "
            + "ask 0 1; rest 1 true; deliver 2; lose 2 = NO; letter 2 2 = 3");
        test("12", "A letter that is UNDER WAY is doubled, as it is: the number of the other one", two + "go 5; ask 0 1; go 4; twice 0 = 1; letter 1 0 = 0; "
            + "letter 1 1 = 1; letter 1 2 = 0; letter 1 3 = NO; deliver 0 = 1; letter 1 2 = 0; twice 0 = 2; letter 2 2 = 1; letter 2 3 = 7; letter 2 4 = 11; "
            + "go 2; lose 0; letter 2 2 = 1; deliver 1 = 1; letter 1 3 = 9; deliver 1 = 2; heard 0 1 0 = 9; heard 0 1 1 = 19; deliver 2 = 2; heard 0 1 0 = 7; "
            + "heard 0 1 1 = 17; of 0 8 = 1; twice 2 = NO");
        test("12", "there is no such letter", "twice 0 = NO; " + two + "twice 0 = NO; ask 0 1; twice 1 = NO; twice -1 = NO; twice 200 = NO; "
            + "twice 2147483647 = NO; twice -2147483648 = NO; count 1 = 1; twice 0 = 1; twice 1 = 2");
        test("12", "it is not UNDER WAY", two + "ask 0 1; ask 0 1; deliver 0; deliver 0; twice 0 = NO; lose 1; twice 1 = NO; count 1 = 2; count 2 = 0; ask 0 1; "
            + "rest 1 true; deliver 2 = 0; twice 2 = NO; count 1 = 3");
        test("12", "there are 200", runs(two + "ask 0 1", counting(1, 199, "twice 0"), "twice 0 = NO; twice 199 = NO; ask 0 1 = NO; lose 0; twice 1 = NO; "
            + "count 1 = 200; count 2 = 199"));
        promisesOfReadingLetters(two);
    }

    private static void promisesOfReadingLetters(String two) {
        test("13", "2 whether it is UNDER WAY to that one (0), back (1), GOT (2), LOST (3)", two + "ask 1 0; letter 0 2 = 0; deliver 0; letter 0 2 = 1; "
            + "deliver 0; letter 0 2 = 2; ask 1 0; lose 1; letter 1 2 = 3; letter 1 0 = 1; letter 1 1 = 0");
        test("13", "there is no such letter or what", "letter 0 0 = NO; " + two + "letter 0 0 = NO; ask 1 0; letter 0 -1 = NO; letter 0 5 = NO; "
            + "letter 0 2147483647 = NO; letter 0 -2147483648 = NO; letter 1 0 = NO; letter -1 0 = NO; letter 200 0 = NO; letter 2147483647 0 = NO; "
            + "letter -2147483648 0 = NO; letter 0 0 = 1; letter 0 1 = 0; letter 0 2 = 0");
        test("13", "it has no answer (3, 4)", two + "ask 1 0; letter 0 3 = NO; letter 0 4 = NO; twice 0; lose 1; letter 1 3 = NO; letter 1 4 = NO; ask 1 0; "
            + "rest 0 true; deliver 2 = 0; letter 2 3 = NO; letter 2 4 = NO; rest 0 false; go 3; deliver 0; letter 0 3 = 2; letter 0 4 = 4; lose 0; "
            + "letter 0 3 = 2; letter 0 4 = 4");
        test("14", "Of what a member HEARD of another one, NOW: LOW (what 0), HIGH (1)", two + "ask 1 0; deliver 0; deliver 0; heard 1 0 0 = -1; "
            + "heard 1 0 1 = 1; go 4; heard 1 0 0 = 3; heard 1 0 1 = 5; rest 1 true; heard 1 0 0 = 3");
        test("14", "one is no member", "heard 0 1 0 = NO; " + two + "ask 0 1; deliver 0; deliver 0; heard 2 1 0 = NO; heard 0 2 0 = NO; heard -1 1 0 = NO; "
            + "heard 0 -1 0 = NO; heard 0 10 0 = NO; heard 10 0 0 = NO; heard 2147483647 1 0 = NO; heard 0 2147483647 0 = NO; heard 0 -2147483648 0 = NO; "
            + "heard 0 1 0 = -2",
            runs(times(10, "member 2 0 0"), "ask 9 0; ask 0 9; deliver 0; deliver 0; deliver 1; deliver 1; heard 9 0 1 = 0; heard 0 9 1 = 0; heard 9 10 1 = NO; "
                + "heard 10 9 1 = NO"));
        test("14", "it has HEARD nothing of it", two + "heard 0 1 0 = NO; heard 0 0 0 = NO; ask 0 1; heard 0 1 0 = NO; deliver 0; heard 0 1 0 = NO; "
            + "heard 1 0 0 = NO; deliver 0; heard 0 1 0 = -2; heard 1 0 0 = NO; heard 0 0 0 = NO; meet 0 0 = 0; heard 0 1 0 = NO; heard 0 1 1 = NO; ask 0 1; "
            + "deliver 1; lose 1; heard 0 1 0 = NO");
        test("14", "another what", two + "ask 0 1; deliver 0; deliver 0; heard 0 1 2 = NO; heard 0 1 -1 = NO; heard 0 1 2147483647 = NO; "
            + "heard 0 1 -2147483648 = NO; heard 0 1 0 = -2; heard 0 1 1 = 2");
    }

    private static void promisesOfMeetings() {
        test("15", "How many of the spans that would meet have a time",
            meeting(2, 5, 8, 20, 30) + "; votes 0 -1 = 0; votes 0 0 = 1; votes 0 4 = 1; votes 0 5 = 2; votes 0 8 = 2; votes 0 9 = 1; votes 0 19 = 1; votes 0 20 = 2; "
            + "votes 0 21 = 1; votes 0 30 = 1; votes 0 31 = 0; votes 0 9223372036854775807 = 0; votes 0 -9223372036854775808 = 0; "
            + "votes 0 -9000000000000000000 = 0; votes 1 10 = 1; votes 1 5 = 0; rest 0 true; votes 0 5 = 2",
            meeting(0) + "; votes 0 0 = 1; votes 0 20 = 1; votes 0 21 = 0");
        test("15", "there is no such member", "votes 0 0 = NO; member 2 0 0; votes 1 0 = NO; member 2 0 0; votes -1 0 = NO; votes 2 0 = NO; votes 10 0 = NO; votes 2147483647 0 = NO; "
            + "votes -2147483648 0 = NO; votes 0 0 = 1");
        String three = meeting(2, 5, 8, 20, 30);
        test("16", "there is no such member or what", "council 0 0 0 = NO; " + three + "; council 3 0 0 = NO; council -1 0 0 = NO; council 10 0 0 = NO; "
            + "council 2147483647 0 0 = NO; council 0 1 -1 = NO; council 0 1 5 = NO; council 0 1 2147483647 = NO; council 0 1 -2147483648 = NO; council 0 1 0 = 3; "
            + "council 0 1 1 = 2; council 0 1 2 = 5; council 0 1 3 = 20; council 0 1 4 = 0");
        test("16", "f is not 0 to one less than so many spans", three + "; council 0 -1 0 = NO; council 0 -1 1 = NO; council 0 3 0 = NO; council 0 3 1 = NO; "
            + "council 0 3 2 = NO; council 0 -2147483648 0 = NO; council 0 2147483647 0 = NO; council 0 0 0 = 3; council 0 2 0 = 3; council 0 2 2 = 0; "
            + "council 0 2 3 = 30; council 0 2 1 = 1; council 0 2 4 = 0",
            "member 0 0 5; council 0 0 0 = 1; council 0 0 1 = 1; council 0 0 2 = -5; council 0 0 3 = 5; council 0 0 4 = 0; council 0 1 0 = NO; council 0 1 1 = NO");
        test("16", "there is no council (2 to 4)", three + "; council 0 0 0 = 3; council 0 0 1 = 0; council 0 0 2 = NO; council 0 0 3 = NO; council 0 0 4 = NO; "
            + "council 0 1 2 = 5; council 0 1 3 = 20; council 0 1 4 = 0");
        promiseMeet();
        test("18", "SHOWN of a member is LED: what it is then", "go 5; member 0 0 3; lead 0 1000 = 2; go 10; lead 0 1000 = 15; of 0 4 = 15; lead 0 0 = 15");
        test("18", "there is no such member", "lead 0 0 = NO; member 2 0 4; go 9; lead 1 0 = NO; member 2 0 4; lead -1 0 = NO; lead 2 0 = NO; lead 10 0 = NO; lead 2147483647 0 = NO; "
            + "lead -2147483648 0 = NO; of 0 4 = -4; lead 0 0 = 5");
        test("18", "lead is not 0..1000", "member 2 0 4; go 9; lead 0 -1 = NO; lead 0 1001 = NO; lead 0 -2147483648 = NO; lead 0 2147483647 = NO; of 0 4 = -4; "
            + "lead 0 0 = 5; go 9; lead 0 1000 = 18");
        test("18", "it RESTS", "member 2 0 4; go 9; rest 0 true; lead 0 0 = NO; lead 0 1000 = NO; of 0 4 = -4; go 1; rest 0 false; lead 0 0 = 6");
    }

    private static void promiseMeet() {
        String three = meeting(2, 5, 8, 20, 30);
        test("17", "THE COUNCIL's span is the member's SPAN from now on",
            meeting(2, 5, 8) + "; meet 0 0 = 0; of 0 0 = 5; of 0 1 = 8; go 5; of 0 0 = 10; of 0 1 = 13; of 1 0 = 15",
            "member 2 200 9; go 6; meet 0 0 = 0; of 0 0 = -4; of 0 1 = 18; go 1; of 0 0 = -3; of 0 1 = 19");
        test("17", "(a BEST one keeps its own)", meeting(3, 5, 8, 40, 40) + "; meet 0 1 = 4; of 0 0 = 0; of 0 1 = 20; of 0 8 = 0; of 2 6 = 1; of 0 7 = 1; go 1; "
            + "of 0 0 = 1; of 0 1 = 21",
            "member 3 200 9; rate 0 3 1; go 6; meet 0 0 = 0; of 0 0 = -3; of 0 1 = 15; go 5; of 0 0 = 2; of 0 1 = 20; stamp 0; given 0 0 = 2");
        test("17", "its HEARD spans are forgotten", three + "; of 0 8 = 2; ask 0 1; meet 0 1 = 0; of 0 8 = 0; heard 0 1 0 = NO; heard 0 2 0 = NO; council 0 0 0 = 1; "
            + "council 0 1 0 = NO; meet 0 1 = NO; deliver 2 = 1; deliver 2 = 2; of 0 8 = 1; heard 0 1 0 = 5; heard 0 2 0 = NO");
        test("17", "there is no such member", "meet 0 0 = NO; " + three + "; meet 3 0 = NO; meet -1 0 = NO; meet 10 0 = NO; meet 10 1 = NO; meet 3 1 = NO; meet -1 1 = NO; meet 2147483647 1 = NO; "
            + "meet -2147483648 1 = NO; of 0 8 = 2; of 0 7 = 0; meet 0 1 = 0");
        test("17", "it is PLAIN or HELD or RESTS", "member 0 0 3; meet 0 0 = NO; of 0 7 = 0", meeting(1, 5, 8) + "; meet 0 0 = NO; of 0 8 = 1; of 0 0 = 0; of 1 7 = 0",
            meeting(2, 5, 8) + "; rest 0 true; meet 0 0 = NO; of 0 8 = 1; of 0 0 = 0; rest 0 false; meet 0 0 = 0; of 0 0 = 5",
            meeting(3, 5, 8) + "; rest 0 true; meet 0 0 = NO; of 0 8 = 1; rest 0 false; meet 0 0 = 0",
            meeting(4, 5, 8) + "; rest 0 true; meet 0 0 = NO; rest 0 false; meet 0 0 = 0; of 0 0 = 5");
        test("17", "f is not as of council()", three + "; meet 0 -1 = NO; meet 0 3 = NO; meet 0 -2147483648 = NO; meet 0 2147483647 = NO; of 0 8 = 2; of 0 7 = 0; "
            + "of 0 1 = 20; meet 0 2 = 0; of 0 0 = 0; of 0 1 = 30; meet 0 1 = NO; meet 0 0 = 0");
        test("17", "there is no council", three + "; meet 0 0 = NO; of 0 8 = 2; of 0 0 = 0; of 0 1 = 20; of 0 7 = 0; of 1 7 = 0; meet 0 1 = 0; of 0 0 = 5; of 0 1 = 20");
    }

    private static void promisesOfStamps() {
        test("19", "A STAMP, a member's SPAN NOW: its number", "member 4 0 3; lie 0 50 60; rest 0 true; stamp 0 = 0; go 5; stamp 0 = 1; given 0 0 = -3; "
            + "given 0 1 = 3; given 1 0 = 2; given 1 1 = 8; member 0 0 0; stamp 1 = 2; given 2 0 = 5; given 2 1 = 5");
        test("19", "there is no such member", "stamp 0 = NO; member 2 0 0; stamp 1 = NO; member 2 0 0; stamp -1 = NO; stamp 2 = NO; stamp 10 = NO; stamp 2147483647 = NO; "
            + "stamp -2147483648 = NO; count 3 = 0; stamp 0 = 0");
        test("19", "there are 100", runs("member 2 0 3; member 3 0 0", counting(0, 99, "stamp 0"), "stamp 0 = NO; stamp 1 = NO; go 1; stamp 0 = NO; count 3 = 100; "
            + "given 99 1 = 3; given 100 1 = NO"));
        test("20", "3 1 if TRUE TIME was in it when it was given, else 0",
            "member 2 0 2; rate 0 1 2; go 4; stamp 0; go 1; stamp 0; given 0 1 = 4; given 0 3 = 1; given 1 1 = 4; given 1 3 = 0; go 9; given 0 3 = 1",
            "member 2 0 2; rate 0 2 1; go 2; stamp 0; go 1; stamp 0; given 0 0 = 2; given 0 3 = 1; given 1 0 = 4; given 1 3 = 0; go 9; given 1 3 = 0");
        test("20", "there is no such STAMP or what", "given 0 0 = NO; member 0 0 0; member 2 0 2; given 0 0 = NO; stamp 1; given 0 -1 = NO; given 0 4 = NO; "
            + "given 0 2147483647 = NO; given 0 -2147483648 = NO; given 1 0 = NO; given -1 0 = NO; given 100 0 = NO; given 2147483647 0 = NO; "
            + "given -2147483648 0 = NO; given 0 0 = -2; given 0 1 = 2; given 0 2 = 1; given 0 3 = 1");
        test("21", "1 if the first STAMP ends ahead of where the second one begins, -1 if it is the other way round, else 0",
            "member 2 0 5; stamp 0; go 10; stamp 0; go 1; stamp 0; ahead 0 1 = 0; ahead 1 0 = 0; ahead 0 2 = 1; ahead 2 0 = -1; ahead 0 0 = 0; ahead 2 2 = 0",
            "member 2 0 0; stamp 0; stamp 0; go 1; stamp 0; ahead 0 1 = 0; ahead 1 2 = 1; ahead 2 0 = -1");
        test("21", "one is none", "ahead 0 0 = NO; member 2 0 0; stamp 0; ahead 0 1 = NO; ahead 1 0 = NO; ahead 0 -1 = NO; ahead -1 0 = NO; ahead 0 100 = NO; "
            + "ahead 100 0 = NO; ahead 2147483647 0 = NO; ahead 0 -2147483648 = NO; ahead 0 0 = 0");
        test("22", "so that LOW of its SPAN is above HIGH of all STAMPS that were given",
            "member 2 0 5; stamp 0; wait 0 = 11; go 10; wait 0 = 1; go 1; wait 0 = 0; stamp 0; wait 0 = 11; member 3 0 9; stamp 1; wait 0 = 15; member 0 0 0; "
            + "wait 2 = 10; rest 0 true; wait 0 = 15",
            "member 3 0 9; member 2 0 0; stamp 0; stamp 1; wait 1 = 10; go 5; stamp 1; wait 1 = 5",
            "member 2 200 0; member 3 0 5; stamp 1; wait 0 = 7; go 6; of 0 0 = 5; wait 0 = 1; go 1; of 0 0 = 6",
            "member 0 200 0; member 3 0 16; stamp 1; wait 0 = 21; go 20; of 0 0 = 16; wait 0 = 1; go 1; of 0 0 = 17; wait 0 = 0",
            "member 2 200 3; stamp 0; given 0 1 = 4; wait 0 = 10; go 9; of 0 0 = 4; wait 0 = 1; go 1; of 0 0 = 5; wait 0 = 0; meet 0 0; stamp 0; go 1; "
            + "given 1 0 = 5; given 1 1 = 17; of 0 0 = 6; wait 0 = 15; go 14; of 0 0 = 17; wait 0 = 1; go 1; of 0 0 = 18; wait 0 = 0");
        test("22", "(0 when it is)", "member 2 0 0; wait 0 = 0; member 2 0 9; wait 1 = 0; stamp 0; wait 0 = 1; go 1; wait 0 = 0; go 9; wait 0 = 0; wait 1 = 0; "
            + "stamp 1; wait 0 = 10",
            "go 20; member 2 0 0; go 1; member 4 0 0; lie 1 -9 -9; ask 0 1; deliver 0; deliver 0; meet 0 1 = 0; stamp 0; wait 0 = 31; wait 1 = 1",
            // the COUNTER 7 and 8 have the same AT LEAST, 6
            "member 2 200 0; member 3 0 5; stamp 1; wait 0 = 7; go 6; of 0 0 = 5; wait 0 = 1; go 1; of 0 0 = 6; wait 0 = 0; go 1; of 0 0 = 6; wait 0 = 0");
        test("22", "there is no such member", "wait 0 = NO; member 2 0 5; stamp 0; wait 1 = NO; member 2 0 5; wait -1 = NO; wait 2 = NO; wait 10 = NO; wait 2147483647 = NO; "
            + "wait -2147483648 = NO; wait 0 = 11");
        test("22", "it is BEST", "member 3 0 5; wait 0 = NO; stamp 0; wait 0 = NO; go 100; wait 0 = NO; member 4 0 0; wait 1 = 0");
    }

    private static void promisesOfEvents() {
        String two = events(2) + "; ";
        test("23", "A new event with a STAMP's span: its number", "member 2 0 4; stamp 0; event 0 = 0; event 0 = 1; go 9; stamp 0; event 1 = 2; event 0 = 3; "
            + "time 0 = -4; time 2 = 5; time 3 = -4; count 4 = 4");
        test("23", "there is no such STAMP", "event 0 = NO; member 2 0 0; event 0 = NO; stamp 0; event 1 = NO; event -1 = NO; event 100 = NO; event 2147483647 = NO; "
            + "event -2147483648 = NO; count 4 = 0; event 0 = 0");
        test("23", "there are 30", runs("member 2 0 0; stamp 0", counting(0, 29, "event 0"), "event 0 = NO; count 4 = 30; time 29 = 0; time 30 = NO; order 30 = NO"));
        test("24", "A LINK: event e must come ahead of event g: how many LINKS there are", two + "link 1 0 = 1; time 1 = -1; time 0 = 0; order 0 = 1; order 1 = 0; "
            + "link 1 0 = 2; count 5 = 2; mend = 1; link 0 1 = 3; count 5 = 3");
        test("24", "one is none", "link 0 1 = NO; " + two + "link 0 2 = NO; link 2 0 = NO; link -1 0 = NO; link 0 -1 = NO; link 30 0 = NO; link 0 30 = NO; "
            + "link 2147483647 0 = NO; link 0 -2147483648 = NO; count 5 = 0; mend = 0; link 0 1 = 1");
        test("24", "they are the same", two + "link 0 0 = NO; link 1 1 = NO; count 5 = 0; mend = 0; ring 0 = NO; link 1 0 = 1");
        test("24", "there are 60", runs(two + counting(1, 60, "link 0 1"), "link 0 1 = NO; link 1 0 = NO; count 5 = 60; mend = 1; ring 0 = NO"));
        test("25", "MEND; -1 when there is none", "mend = 0", two + "mend = 0; link 0 1; mend = 1; link 1 0; mend = -1; event 0; mend = -1");
        test("26", "MEND is -1", two + "order 0 = 0; link 0 1; order 0 = 0; link 1 0; order 0 = NO; order 1 = NO; order 2 = NO; order -1 = NO");
        test("26", "there is none such", "order 0 = NO; " + two + "order 0 = 0; order 1 = 1; order 2 = NO; order -1 = NO; order 30 = NO; order 2147483647 = NO; "
            + "order -2147483648 = NO; event 0; order 2 = 2; order 3 = NO");
        test("27", "The least TIME of an event with MEND", "member 2 0 3; stamp 0; go 20; stamp 0; event 1; event 0; event 0; time 0 = 17; link 0 1; mend = 8; "
            + "time 0 = 9; time 1 = 10; time 2 = -11; link 1 2; mend = 8; time 2 = 11");
        test("27", "MEND is -1", two + "time 0 = 0; link 0 1; time 1 = 0; link 1 0; time 0 = NO; time 1 = NO; time 2 = NO; event 0; time 2 = NO");
        test("27", "there is no such event", "time 0 = NO; " + two + "time 0 = 0; time 1 = 0; time 2 = NO; time -1 = NO; time 30 = NO; time 2147483647 = NO; "
            + "time -2147483648 = NO");
        promiseRing();
        test("29", "How many: 0 members, 1 letters, 2 those UNDER WAY, 3 STAMPS, 4 events, 5 LINKS, 6 TRUE TIME",
            "go 9; member 2 0 0; member 2 0 0; ask 0 1; ask 0 1; ask 0 1; ask 0 1; lose 0; deliver 1; deliver 2; deliver 2; stamp 0; stamp 1; stamp 0; "
            + "event 0; event 0; event 0; event 0; event 0; link 0 1; count 0 = 2; count 1 = 4; count 2 = 2; count 3 = 3; count 4 = 5; count 5 = 1; count 6 = 9");
        test("29", "another what", "count -1 = NO; count 7 = NO; count 2147483647 = NO; count -2147483648 = NO; count 0 = 0; count 6 = 0");
    }

    private static String ring(int... events) {
        StringBuilder s = new StringBuilder();
        for (int i = 0; i < events.length; i++) {
            s.append(i == 0 ? "" : "; ").append("link ").append(events[i]).append(' ').append(events[(i + 1) % events.length]);
        }
        return s.toString();
    }

    private static String is(int... events) {
        StringBuilder s = new StringBuilder();
        for (int i = 0; i < events.length; i++) {
            s.append("ring ").append(i).append(" = ").append(events[i]).append("; ");
        }
        return s.append("ring ").append(events.length).append(" = -1").toString();
    }

    private static void promiseRing() {
        String eight = events(8);
        test("28", "of the RING with the fewest events", runs(eight, ring(0, 1, 2, 3), is(0, 1, 2, 3), ring(4, 5, 6), is(4, 5, 6), ring(6, 7), is(6, 7)),
            runs(eight, ring(0, 1, 2, 3, 4), "link 3 1", is(1, 2, 3)));
        test("28", "of such the one whose first event is least, then the second, and so on",
            runs(eight, ring(2, 3), is(2, 3), ring(0, 7), is(0, 7), ring(0, 4), is(0, 4), ring(1, 2), is(0, 4)),
            runs(eight, ring(0, 4, 7), is(0, 4, 7), ring(0, 4, 6), is(0, 4, 6), ring(0, 3, 7), is(0, 3, 7), ring(0, 3, 5), is(0, 3, 5)),
            runs(eight, ring(0, 2, 5, 7), is(0, 2, 5, 7), ring(0, 2, 5, 6), is(0, 2, 5, 6), ring(0, 1, 4, 3), is(0, 1, 4, 3)));
        test("28", "(it begins with its least event)", runs(eight, ring(5, 7, 3), is(3, 5, 7)), runs(eight, ring(7, 6), is(6, 7)),
            runs(eight, ring(7, 6, 5, 4, 3, 2, 1, 0), is(0, 7, 6, 5, 4, 3, 2, 1)));
        test("28", "-1 when it has not so many", runs(eight, ring(1, 2), "ring 1 = 2; ring 2 = -1; ring 3 = -1; ring 30 = -1; ring 2147483647 = -1"),
            runs(events(30), chain(0, 29), "link 29 0; ring 0 = 0; ring 28 = 28; ring 29 = 29; ring 30 = -1"));
        test("28", "there is no RING", "ring 0 = NO; " + eight + "; ring 0 = NO; link 0 1; link 1 2; link 0 2; ring 0 = NO; ring -1 = NO; ring 2147483647 = NO; "
            + "link 2 0; ring 0 = 0; ring 1 = 2; ring 2 = -1");
        test("28", "k is below 0", runs(eight, ring(1, 2), "ring -1 = NO; ring -2147483648 = NO; ring 0 = 1"));
    }

    // ---- no number goes round ----

    private static BigInteger big(long n) {
        return BigInteger.valueOf(n);
    }

    private static BigInteger ceil(BigInteger top, long bottom) {
        BigInteger[] parts = top.divideAndRemainder(big(bottom));
        return parts[1].signum() > 0 ? parts[0].add(BigInteger.ONE) : parts[0];
    }

    private static BigInteger atMost(BigInteger d, int p) {
        return ceil(d.add(BigInteger.ONE).multiply(big(1000)), 1000 - p).subtract(BigInteger.ONE);
    }

    private static BigInteger atLeast(BigInteger d, int p) {
        return d.subtract(BigInteger.ONE).multiply(big(1000)).divide(big(1000 + p)).add(BigInteger.ONE);
    }

    private static void dueBig(String what, long got, BigInteger want) {
        due(what, got, want.longValueExact());
    }

    private static void wideNumbers() {
        sentence = "the fastest COUNTER for as long as 512 calls can last";
        ClockCouncil x = new ClockCouncil();
        x.member(2, 200, 100000);
        x.rate(0, 100000, 1);
        x.member(3, 0, 100000);
        for (int i = 0; i < 490; i++) {
            x.go(1000000);
        }
        BigInteger d = big(490000000L).multiply(big(100000));
        dueBig("counter", x.counter(0), d);
        dueBig("LOW", x.of(0, 0), atLeast(d, 200).subtract(big(100000)));
        dueBig("HIGH", x.of(0, 1), atMost(d, 200).add(big(100000)));
        due("in it", x.of(0, 5), 0);
        x.stamp(0);
        BigInteger ticks = big(x.given(0, 1)).add(big(1)).subtract(big(-100000));
        BigInteger needed = ceil(ticks.subtract(big(1)).multiply(big(1200)), 1000).add(big(1));
        dueBig("wait", x.wait(0), needed.subtract(d));
        due("votes", x.votes(0, Long.MAX_VALUE), 0);
        BigInteger middle = big(x.of(0, 0)).add(big(x.of(0, 1))).divide(big(2));
        dueBig("lead", x.lead(0, 1000), middle);
        farthestSpan();
        fartherLies();
    }

    /** Old letters, each brought back at the end, carry HIGH to and fro between two members. */
    private static void farthestSpan() {
        sentence = "the widest SPAN that 512 calls can make";
        int hops = 60;
        ClockCouncil x = new ClockCouncil();
        for (int m = 0; m < 2; m++) {
            x.member(2, 200, 100000);
            x.rate(m, 100000, 1);
        }
        x.member(0, 200, 100000);
        for (int i = 0; i < hops; i++) {
            x.ask(i % 2, 1 - i % 2);
        }
        for (int i = 0; i < 250; i++) {
            x.go(1000000);
        }
        BigInteger d = big(250000000L).multiply(big(100000));
        BigInteger high = atMost(d, 200).add(big(100000));
        for (int i = 0; i < hops; i++) {
            x.deliver(i);
            x.deliver(i);
            due("meet", x.meet(i % 2, 1), 0);
            high = high.add(atMost(d, 200)).add(big(2));
        }
        int last = (hops - 1) % 2;
        dueBig("HIGH", x.of(last, 1), high);
        dueBig("LOW", x.of(last, 0), atLeast(d, 200).subtract(big(100000)));
        x.stamp(last);
        BigInteger ticks = high.add(big(1)).add(big(100000));
        dueBig("wait", x.wait(2), ceil(ticks.subtract(big(1)).multiply(big(1200)), 1000).add(big(1)).subtract(big(250000000L)));
        dueBig("wait", x.wait(last), ceil(high.add(big(1)).subtract(big(x.of(last, 0))).subtract(big(1)).multiply(big(1200)), 1000).add(big(1)));
        dueBig("lead", x.lead(last, 1000), d.multiply(big(2)).subtract(big(100000)));
        x.stamp(2);
        x.event(0);
        x.event(1);
        x.link(0, 1);
        BigInteger excess = big(x.given(0, 0)).add(big(1)).subtract(big(x.given(1, 1)));
        dueBig("mend", x.mend(), ceil(excess, 2));
    }

    private static void fartherLies() {
        sentence = "the farthest lies";
        String most = "1000000000000";
        String far = "member 2 0 0; member 4 0 0; lie 1 " + most + " " + most + "; ask 0 1; deliver 0; deliver 0; member 4 0 0; lie 2 -" + most + " -" + most
            + "; ask 0 2; deliver 1; deliver 1; ";
        tell(far + "council 0 2 1 = 3; council 0 2 2 = -" + most + "; council 0 2 3 = " + most + "; meet 0 2 = 0; of 0 0 = -" + most + "; of 0 1 = " + most
            + "; lead 0 1000 = 0; stamp 0 = 0; wait 0 = 2000000000001; wait 1 = 1000000000001");
        tell("member 2 0 0; member 2 0 0; member 4 0 0; member 4 0 0; lie 2 " + most + " " + most + "; lie 3 -" + most + " -" + most
            + "; ask 0 2; twice 0; deliver 0; deliver 0; ask 1 3; deliver 2; deliver 2; lie 3 " + most + " " + most + "; ask 0 3; deliver 3; deliver 3; "
            + "lie 2 -" + most + " -" + most + "; ask 1 2; deliver 4; deliver 4; meet 0 1 = 1; meet 1 1 = 2; of 0 0 = " + most + "; of 1 1 = -" + most
            + "; stamp 0; stamp 1; ahead 0 1 = -1; ahead 1 0 = 1; event 0; event 1; link 0 1; mend = 1000000000001; time 0 = -1; time 1 = 0; order 0 = 0; order 1 = 1");
    }
}
