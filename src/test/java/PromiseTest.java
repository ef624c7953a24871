/** Each promise by hand: ordinary inputs, the edges that the document names, wrong inputs. */
public final class PromiseTest {
    private static final long NO = -9000000000000000000L;
    private static int wrong = 0;

    private static void due(String what, long got, long want) {
        if (got != want) {
            wrong++;
            System.out.println(what + " answered " + got + ", due is " + want);
        }
    }

    public static void main(String[] args) {
        newObject();
        go();
        member();
        rate();
        lie();
        rest();
        counter();
        of();
        ask();
        deliver();
        lose();
        twice();
        letter();
        heard();
        votes();
        council();
        councilPieces();
        councilOfAll();
        meet();
        meetOfBest();
        heardOfTheFirst();
        lead();
        stamp();
        given();
        ahead();
        waiting();
        event();
        link();
        mend();
        order();
        ring();
        ringLeast();
        count();
        farSpans();
        System.out.println(wrong == 0 ? "all answers are as due" : wrong + " answers are not as due");
        if (wrong != 0) {
            System.exit(1);
        }
    }

    private static void newObject() {
        ClockCouncil x = new ClockCouncil();
        due("NO", ClockCouncil.NO, NO);
        for (int what = 0; what <= 6; what++) {
            due("1: count(" + what + ")", x.count(what), 0);
        }
        due("1: mend()", x.mend(), 0);
        due("1: counter(0)", x.counter(0), NO);
        due("1: letter(0, 0)", x.letter(0, 0), NO);
        due("1: given(0, 0)", x.given(0, 0), NO);
        due("1: order(0)", x.order(0), NO);
        due("1: ring(0)", x.ring(0), NO);
    }

    private static void go() {
        ClockCouncil x = new ClockCouncil();
        due("2: go(-1)", x.go(-1), NO);
        due("2: go(0)", x.go(0), NO);
        due("2: go(1000001)", x.go(1000001), NO);
        due("2: go(least)", x.go(Integer.MIN_VALUE), NO);
        due("2: go(most)", x.go(Integer.MAX_VALUE), NO);
        due("2: count(6)", x.count(6), 0);
        due("2: go(1)", x.go(1), 1);
        due("2: go(1000000)", x.go(1000000), 1000001);
        due("2: count(6)", x.count(6), 1000001);
    }

    /** Beyond the 512 calls answers are free; here the edge at 1000000000 is kept all the same. */
    private static void farSpans() {
        ClockCouncil x = new ClockCouncil();
        for (int i = 1; i <= 1000; i++) {
            due("2: go", x.go(1000000), i * 1000000L);
        }
        due("2: go above", x.go(1), NO);
        due("2: count(6)", x.count(6), 1000000000L);
    }

    private static void member() {
        ClockCouncil x = new ClockCouncil();
        due("3: kind -1", x.member(-1, 0, 0), NO);
        due("3: kind 5", x.member(5, 0, 0), NO);
        due("3: p -1", x.member(0, -1, 0), NO);
        due("3: p 201", x.member(0, 201, 0), NO);
        due("3: e -1", x.member(0, 0, -1), NO);
        due("3: e 100001", x.member(0, 0, 100001), NO);
        due("3: count(0)", x.count(0), 0);
        x.go(70);
        due("3: member", x.member(0, 0, 100000), 0);
        due("3: of(0, 0)", x.of(0, 0), -99930);
        due("3: of(0, 1)", x.of(0, 1), 100070);
        for (int i = 1; i < 10; i++) {
            due("3: member", x.member(i % 5, 200, 0), i);
            due("3: kind", x.of(i, 2), i % 5);
        }
        due("3: the 11th", x.member(0, 0, 0), NO);
        due("7: m 10", x.counter(10), NO);
        due("3: count(0)", x.count(0), 10);
    }

    private static void rate() {
        ClockCouncil x = new ClockCouncil();
        x.member(2, 10, 0);
        due("4: none", x.rate(1, 1, 1), NO);
        due("4: m -1", x.rate(-1, 1, 1), NO);
        due("4: up 0", x.rate(0, 0, 1), NO);
        due("4: up 100001", x.rate(0, 100001, 1), NO);
        due("4: down 0", x.rate(0, 1, 0), NO);
        due("4: down 100001", x.rate(0, 1, 100001), NO);
        due("4: 1010 by 1000", x.rate(0, 1010, 1000), 1);
        due("4: 1011 by 1000", x.rate(0, 1011, 1000), 0);
        due("4: 990 by 1000", x.rate(0, 990, 1000), 1);
        due("4: 989 by 1000", x.rate(0, 989, 1000), 0);
        due("4: 100000 by 1", x.rate(0, 100000, 1), 0);
        x.go(3);
        due("4: counter beyond its drift", x.counter(0), 300000);
        due("4: a tick has gone", x.rate(0, 1, 1), NO);
        x.member(2, 0, 0);
        due("4: it came at 3", x.rate(1, 1, 100000), 0);
        due("4: 1 by 1 with p 0", x.rate(1, 7, 7), 1);
        due("4: p 0", x.rate(1, 100000, 99999), 0);
    }

    private static void lie() {
        long most = 1000000000000L;
        ClockCouncil x = new ClockCouncil();
        x.member(4, 0, 5);
        x.member(2, 0, 5);
        due("5: none", x.lie(2, 0, 0), NO);
        due("5: no LYING one", x.lie(1, 0, 0), NO);
        due("5: high below low", x.lie(0, 1, 0), NO);
        due("5: low", x.lie(0, -most - 1, 0), NO);
        due("5: high", x.lie(0, 0, most + 1), NO);
        due("5: both above", x.lie(0, most + 1, most + 2), NO);
        due("5: both below", x.lie(0, Long.MIN_VALUE, -most - 1), NO);
        x.ask(1, 0);
        x.ask(1, 0);
        x.deliver(0);
        due("5: 0 at first", x.letter(0, 3), 0);
        due("5: 0 at first", x.letter(0, 4), 0);
        due("5: lie", x.lie(0, -most, most), 1);
        x.go(10);
        x.deliver(1);
        due("5: told low", x.letter(1, 3), -most);
        due("5: told high", x.letter(1, 4), most);
        due("5: its own span", x.of(0, 0), 5);
        due("5: its own span", x.of(0, 1), 15);
    }

    private static void rest() {
        ClockCouncil x = new ClockCouncil();
        x.member(0, 0, 0);
        due("6: none", x.rest(1, true), NO);
        due("6: PLAIN", x.rest(0, true), NO);
        due("6: PLAIN", x.rest(0, false), NO);
        for (int kind = 1; kind <= 4; kind++) {
            x.member(kind, 0, 0);
            due("6: did not", x.rest(kind, true), 0);
            due("6: did", x.rest(kind, true), 1);
            due("6: of(3)", x.of(kind, 3), 1);
            x.go(1);
            due("6: its COUNTER goes on", x.counter(kind), 1);
            due("6: did", x.rest(kind, false), 1);
            due("6: did not", x.rest(kind, false), 0);
            due("6: of(3)", x.of(kind, 3), 0);
        }
    }

    private static void counter() {
        ClockCouncil x = new ClockCouncil();
        due("7: none", x.counter(0), NO);
        due("7: m -1", x.counter(-1), NO);
        x.go(5);
        x.member(1, 0, 0);
        x.rate(0, 2, 3);
        due("7: at first", x.counter(0), 0);
        long[] want = {0, 1, 2, 2, 3, 4};
        for (long w : want) {
            x.go(1);
            due("7: 2 by 3", x.counter(0), w);
        }
        due("7: m 1", x.counter(1), NO);
    }

    private static void of() {
        ClockCouncil x = new ClockCouncil();
        x.go(100);
        x.member(2, 100, 7);
        due("8: none", x.of(1, 0), NO);
        due("8: what -1", x.of(0, -1), NO);
        due("8: what 9", x.of(0, 9), NO);
        due("8: LOW", x.of(0, 0), 93);
        // CEIL(1000 by 900) - 1 = 1
        due("8: HIGH", x.of(0, 1), 108);
        due("8: KIND", x.of(0, 2), 2);
        due("8: SHOWN", x.of(0, 4), 93);
        due("8: in it", x.of(0, 5), 1);
        x.go(11);
        // FLOOR(10000 by 1100) + 1 = 10, CEIL(12000 by 900) - 1 = 13
        due("8: LOW", x.of(0, 0), 103);
        due("8: HIGH", x.of(0, 1), 120);
        due("8: SHOWN stays until it is LED", x.of(0, 4), 93);
        x.member(2, 0, 3);
        x.rate(1, 2, 1);
        x.go(3);
        due("8: LOW is TRUE TIME", x.of(1, 0), 114);
        due("8: in it at its end", x.of(1, 5), 1);
        x.go(1);
        due("8: no more in it", x.of(1, 5), 0);
        x.member(2, 0, 2);
        x.rate(2, 1, 2);
        x.go(4);
        due("8: HIGH is TRUE TIME", x.of(2, 1), 119);
        due("8: in it at its end", x.of(2, 5), 1);
        x.go(2);
        due("8: no more in it", x.of(2, 5), 0);
        x.member(3, 200, 4);
        x.go(50);
        due("8: LOW of a BEST one", x.of(3, 0), 167);
        due("8: HIGH of a BEST one", x.of(3, 1), 175);
        due("8: HEARD", x.of(0, 8), 0);
    }

    private static void ask() {
        ClockCouncil x = new ClockCouncil();
        x.member(0, 0, 0);
        x.member(1, 0, 0);
        x.member(3, 0, 0);
        due("9: PLAIN", x.ask(0, 1), NO);
        due("9: m none", x.ask(3, 1), NO);
        due("9: n none", x.ask(1, 3), NO);
        due("9: n -1", x.ask(1, -1), NO);
        due("9: same", x.ask(1, 1), NO);
        x.rest(1, true);
        due("9: RESTS", x.ask(1, 0), NO);
        due("9: one that RESTS can be asked", x.ask(2, 1), 0);
        x.rest(1, false);
        for (int i = 1; i < 200; i++) {
            due("9: ask", x.ask(1, 0), i);
        }
        due("9: the 201st", x.ask(1, 0), NO);
        due("12: the 201st", x.twice(5), NO);
        due("13: l 200", x.letter(200, 0), NO);
        due("10: l 200", x.deliver(200), NO);
        due("11: l 200", x.lose(200), NO);
        due("12: l 200", x.twice(200), NO);
        due("9: count(1)", x.count(1), 200);
        due("9: count(2)", x.count(2), 200);
    }

    private static void deliver() {
        ClockCouncil x = new ClockCouncil();
        x.member(2, 0, 1);
        x.member(2, 0, 2);
        due("10: none", x.deliver(0), NO);
        due("10: l -1", x.deliver(-1), NO);
        x.ask(0, 1);
        x.rest(1, true);
        due("10: whom it asks RESTS", x.deliver(0), 0);
        due("10: LOST", x.letter(0, 2), 3);
        due("10: not UNDER WAY", x.deliver(0), NO);
        x.rest(1, false);
        x.ask(0, 1);
        x.rest(0, true);
        due("10: the asker RESTS, but it goes to the other one", x.deliver(1), 1);
        due("10: the asker RESTS", x.deliver(1), 0);
        due("10: LOST", x.letter(1, 2), 3);
        x.rest(0, false);
        x.ask(0, 1);
        due("10: there", x.deliver(2), 1);
        x.rest(1, true);
        due("10: back, though whom it asked RESTS", x.deliver(2), 2);
        due("10: GOT", x.letter(2, 2), 2);
        due("10: not UNDER WAY", x.deliver(2), NO);
        due("10: HEARD", x.of(0, 8), 1);
        due("10: HEARD by the asker alone", x.of(1, 8), 0);
    }

    private static void lose() {
        ClockCouncil x = new ClockCouncil();
        x.member(2, 0, 1);
        x.member(0, 0, 2);
        due("11: none", x.lose(0), NO);
        x.ask(0, 1);
        due("11: l -1", x.lose(-1), NO);
        due("11: lose", x.lose(0), 1);
        due("11: LOST", x.lose(0), NO);
        due("11: LOST", x.letter(0, 2), 3);
        x.ask(0, 1);
        x.deliver(1);
        due("11: on the way back", x.lose(1), 1);
        due("11: LOST", x.deliver(1), NO);
        x.ask(0, 1);
        x.deliver(2);
        x.deliver(2);
        due("11: GOT", x.lose(2), NO);
        due("11: GOT", x.letter(2, 2), 2);
    }

    private static void twice() {
        ClockCouncil x = new ClockCouncil();
        x.member(2, 0, 1);
        x.member(2, 0, 2);
        due("12: none", x.twice(0), NO);
        x.ask(0, 1);
        x.go(10);
        due("12: twice", x.twice(0), 1);
        due("12: asker", x.letter(1, 0), 0);
        due("12: asked", x.letter(1, 1), 1);
        due("12: UNDER WAY there", x.letter(1, 2), 0);
        due("12: no answer", x.letter(1, 3), NO);
        x.deliver(0);
        due("12: the other one is still on its way", x.letter(1, 2), 0);
        due("12: twice", x.twice(0), 2);
        due("12: UNDER WAY back", x.letter(2, 2), 1);
        due("12: answer", x.letter(2, 3), 8);
        due("12: answer", x.letter(2, 4), 12);
        x.deliver(2);
        // d is 10, since the first one was sent
        due("12: HEARD", x.heard(0, 1, 1), 22);
        due("12: GOT", x.twice(2), NO);
        x.lose(0);
        due("12: LOST", x.twice(0), NO);
        due("12: l 3", x.twice(3), NO);
        due("12: count(1)", x.count(1), 3);
    }

    private static void letter() {
        ClockCouncil x = new ClockCouncil();
        x.member(1, 0, 1);
        x.member(0, 0, 2);
        x.member(4, 0, 3);
        x.lie(2, -5, 9);
        due("13: none", x.letter(0, 0), NO);
        x.ask(0, 1);
        x.ask(2, 0);
        x.ask(0, 2);
        due("13: asker", x.letter(1, 0), 2);
        due("13: asked", x.letter(1, 1), 0);
        due("13: there", x.letter(1, 2), 0);
        due("13: no answer", x.letter(1, 3), NO);
        due("13: no answer", x.letter(1, 4), NO);
        due("13: what -1", x.letter(1, -1), NO);
        due("13: what 5", x.letter(1, 5), NO);
        due("13: l -1", x.letter(-1, 0), NO);
        due("13: l 3", x.letter(3, 0), NO);
        x.go(4);
        x.deliver(0);
        x.deliver(2);
        due("13: back", x.letter(0, 2), 1);
        due("13: LOW", x.letter(0, 3), 2);
        due("13: HIGH", x.letter(0, 4), 6);
        due("13: what was told", x.letter(2, 3), -5);
        due("13: what was told", x.letter(2, 4), 9);
        x.go(4);
        due("13: the answer stays", x.letter(0, 4), 6);
        x.lose(1);
        due("13: LOST without an answer", x.letter(1, 3), NO);
        x.lose(0);
        due("13: LOST with an answer", x.letter(0, 3), 2);
    }

    private static void heard() {
        ClockCouncil x = new ClockCouncil();
        x.go(1000);
        x.member(2, 100, 5);
        x.member(3, 0, 1);
        x.ask(0, 1);
        x.ask(0, 1);
        x.go(10);
        x.deliver(0);
        x.go(10);
        x.deliver(1);
        due("14: nothing yet", x.heard(0, 1, 0), NO);
        x.deliver(1);
        // AT MOST with 20: CEIL(21000 by 900) - 1 = 23; with 0: 1
        due("14: LOW", x.heard(0, 1, 0), 1019);
        due("14: HIGH", x.heard(0, 1, 1), 1021 + 23 + 1);
        x.go(11);
        // since then AT LEAST 10, AT MOST 13
        due("14: LOW", x.heard(0, 1, 0), 1029);
        due("14: HIGH", x.heard(0, 1, 1), 1021 + 23 + 13);
        x.deliver(0);
        // the late letter comes last, and so it stands; AT MOST with 31: CEIL(32000 by 900) - 1 = 35
        due("14: LOW", x.heard(0, 1, 0), 1009);
        due("14: HIGH", x.heard(0, 1, 1), 1011 + 35 + 1);
        due("14: HEARD of one", x.of(0, 8), 1);
        due("14: what 2", x.heard(0, 1, 2), NO);
        due("14: what -1", x.heard(0, 1, -1), NO);
        due("14: of itself", x.heard(0, 0, 0), NO);
        due("14: the other way", x.heard(1, 0, 0), NO);
        due("14: m none", x.heard(2, 1, 0), NO);
        due("14: n none", x.heard(0, 2, 0), NO);
        due("14: n -1", x.heard(0, -1, 0), NO);
        due("14: n 10", x.heard(0, 10, 0), NO);
    }

    /** Member 0 (0 to 20 at time 10) hears of one LYING member after the other, each with its lie. */
    private static ClockCouncil meeting(int kind, long... lies) {
        ClockCouncil x = new ClockCouncil();
        x.go(10);
        x.member(kind, 0, 10);
        for (int i = 0; i < lies.length; i += 2) {
            int n = (int) x.member(4, 0, 0);
            x.lie(n, lies[i], lies[i + 1]);
            int l = (int) x.ask(0, n);
            x.deliver(l);
            x.deliver(l);
        }
        return x;
    }

    private static void votes() {
        ClockCouncil x = meeting(2, 5, 8, 20, 30);
        due("15: none", x.votes(3, 0), NO);
        due("15: m -1", x.votes(-1, 0), NO);
        long[] times = {-1, 0, 4, 5, 8, 9, 19, 20, 21, 30, 31, Long.MIN_VALUE, Long.MAX_VALUE};
        long[] want = {0, 1, 1, 2, 2, 1, 1, 2, 1, 1, 0, 0, 0};
        for (int i = 0; i < times.length; i++) {
            due("15: votes(0, " + times[i] + ")", x.votes(0, times[i]), want[i]);
        }
        due("15: a LYING one votes with its own span", x.votes(1, 10), 1);
        due("15: and not with its lie", x.votes(1, 5), 0);
        x.rest(0, true);
        due("15: one that RESTS too", x.votes(0, 5), 2);
    }

    private static void council() {
        ClockCouncil x = meeting(2, 5, 8, 20, 30, 40, 40);
        due("16: none", x.council(4, 0, 0), NO);
        due("16: what -1", x.council(0, 2, -1), NO);
        due("16: what 5", x.council(0, 2, 5), NO);
        due("16: f -1", x.council(0, -1, 0), NO);
        due("16: f 4", x.council(0, 4, 0), NO);
        due("16: f 4", x.council(0, 4, 1), NO);
        due("16: spans", x.council(0, 0, 0), 4);
        due("16: spans", x.council(0, 3, 0), 4);
        for (int what = 2; what <= 4; what++) {
            due("16: no council", x.council(0, 1, what), NO);
        }
        due("16: no pieces", x.council(0, 1, 1), 0);
        due("16: pieces", x.council(0, 2, 1), 2);
        due("16: LOW", x.council(0, 2, 2), 5);
        due("16: HIGH", x.council(0, 2, 3), 20);
        due("16: LIARS", x.council(0, 2, 4), 8);
        due("16: pieces", x.council(0, 3, 1), 2);
        due("16: LOW", x.council(0, 3, 2), 0);
        due("16: HIGH", x.council(0, 3, 3), 40);
        due("16: LIARS", x.council(0, 3, 4), 0);
        due("16: nothing has changed", x.of(0, 8), 3);
        due("16: nothing has changed", x.of(3, 6), 0);
        due("16: nothing has changed", x.of(3, 7), 0);
        due("16: alone", x.council(1, 0, 2), 10);
        due("16: alone", x.council(1, 0, 0), 1);
    }

    private static void councilPieces() {
        ClockCouncil x = meeting(2, 21, 25, 27, 27);
        due("16: times that follow one another are one", x.council(0, 2, 1), 2);
        ClockCouncil y = meeting(2, 2, 4, 5, 7, 9, 12, 2, 3);
        due("16: pieces of two", y.council(0, 3, 1), 2);
        due("16: LOW", y.council(0, 3, 2), 2);
        due("16: HIGH", y.council(0, 3, 3), 12);
        due("16: a hole is in the span", y.council(0, 3, 4), 0);
        due("16: pieces of three", y.council(0, 2, 1), 1);
        due("16: HIGH of three", y.council(0, 2, 3), 3);
        due("16: LIARS of three", y.council(0, 2, 4), 4 + 8);
        ClockCouncil z = meeting(2, 100, 110, 100, 110);
        due("16: itself a LIAR", z.council(0, 1, 4), 1);
        due("16: a beginning in common is one", meeting(2, 0, 5, 0, 3).council(0, 0, 1), 1);
        ClockCouncil ends = meeting(2, 20, 40, -10, 0);
        due("16: an end in common", ends.council(0, 1, 4), 0);
        due("16: LOW", ends.council(0, 1, 2), 0);
        due("16: HIGH", ends.council(0, 1, 3), 20);
    }

    private static void councilOfAll() {
        ClockCouncil x = meeting(2, 0, 0, 2, 2, 4, 4, 6, 6, 8, 8, 10, 10, 12, 12, 14, 14, 30, 30);
        due("16: spans", x.council(0, 9, 0), 10);
        due("16: f 10", x.council(0, 10, 0), NO);
        due("16: pieces of one", x.council(0, 9, 1), 2);
        due("16: pieces of two", x.council(0, 8, 1), 8);
        due("16: LOW", x.council(0, 8, 2), 0);
        due("16: HIGH", x.council(0, 8, 3), 14);
        due("16: LIARS", x.council(0, 8, 4), 512);
        due("17: meet", x.meet(0, 8), 512);
        for (int m = 0; m < 10; m++) {
            due("17: met", x.of(m, 7), 1);
        }
    }

    private static void meet() {
        ClockCouncil x = meeting(2, 5, 8, 6, 30, 40, 40);
        due("17: none", x.meet(4, 0), NO);
        due("17: f -1", x.meet(0, -1), NO);
        due("17: f 4", x.meet(0, 4), NO);
        due("17: no council", x.meet(0, 0), NO);
        x.rest(0, true);
        due("17: RESTS", x.meet(0, 1), NO);
        x.rest(0, false);
        due("17: meet", x.meet(0, 1), 8);
        due("17: LOW", x.of(0, 0), 6);
        due("17: HIGH", x.of(0, 1), 8);
        due("17: forgotten", x.of(0, 8), 0);
        due("17: forgotten", x.heard(0, 1, 0), NO);
        due("17: spans", x.council(0, 0, 0), 1);
        due("17: a LIAR", x.of(3, 6), 1);
        for (int m = 0; m < 4; m++) {
            due("17: met", x.of(m, 7), 1);
            due("17: LIARS", x.of(m, 6), m == 3 ? 1 : 0);
        }
        due("17: alone", x.meet(0, 0), 0);
        due("17: met", x.of(0, 7), 2);
        due("17: met", x.of(1, 7), 1);
        x.go(5);
        due("17: as of its COUNTER", x.of(0, 0), 11);
        due("17: as of its COUNTER", x.of(0, 1), 13);
        due("17: HELD", meeting(1, 5, 8).meet(0, 0), NO);
        due("17: PLAIN", meeting(0).meet(0, 0), NO);
        ClockCouncil liar = meeting(4, 5, 8);
        due("17: LYING", liar.meet(0, 0), 0);
        due("17: LYING", liar.of(0, 0), 5);
        ClockCouncil self = meeting(2, 100, 110, 105, 110);
        due("17: itself", self.meet(0, 1), 1);
        due("17: itself", self.of(0, 6), 1);
        due("17: its span", self.of(0, 0), 105);
    }

    private static void meetOfBest() {
        ClockCouncil x = meeting(3, 5, 8, 40, 40);
        int late = (int) x.ask(0, 1);
        due("17: BEST", x.meet(0, 1), 4);
        due("17: it keeps its own", x.of(0, 0), 0);
        due("17: it keeps its own", x.of(0, 1), 20);
        due("17: forgotten", x.of(0, 8), 0);
        due("17: met", x.of(0, 7), 1);
        due("17: a LIAR", x.of(2, 6), 1);
        x.deliver(late);
        x.deliver(late);
        due("17: HEARD again by a late letter", x.of(0, 8), 1);
        due("17: of that one alone", x.heard(0, 2, 0), NO);
    }

    /** Member 1 hears of member 0, at a COUNTER that is not 0 when it asks. */
    private static void heardOfTheFirst() {
        ClockCouncil x = new ClockCouncil();
        x.member(0, 0, 4);
        x.member(2, 0, 100);
        x.go(50);
        x.ask(1, 0);
        x.go(3);
        x.deliver(0);
        x.deliver(0);
        due("14: LOW", x.heard(1, 0, 0), 49);
        due("14: d since it asked", x.heard(1, 0, 1), 57 + 3);
        due("8: HEARD", x.of(1, 8), 1);
        due("16: spans", x.council(1, 0, 0), 2);
        due("15: votes", x.votes(1, 49), 2);
        due("17: meet", x.meet(1, 0), 0);
        due("17: forgotten", x.of(1, 8), 0);
        due("17: its span", x.of(1, 0), 49);
        due("17: its span", x.of(1, 1), 60);
        due("17: met", x.of(0, 7), 1);
        x.stamp(1);
        x.go(2);
        due("22: since the MEETING", x.wait(1), 60 + 1 - 49 - 2);
    }

    private static void lead() {
        ClockCouncil x = new ClockCouncil();
        x.member(2, 0, 100);
        due("18: none", x.lead(1, 0), NO);
        due("18: lead -1", x.lead(0, -1), NO);
        due("18: lead 1001", x.lead(0, 1001), NO);
        due("18: at first", x.lead(0, 1000), -100);
        x.go(15);
        // d 15, s FLOOR(1.5) = 1: by 16 at most
        due("18: softly", x.lead(0, 100), -84);
        x.go(10);
        due("18: as the COUNTER", x.lead(0, 0), -74);
        x.go(1000);
        due("18: to the MIDDLE", x.lead(0, 1000), 1025);
        due("18: of(4)", x.of(0, 4), 1025);
        x.rest(0, true);
        due("18: RESTS", x.lead(0, 0), NO);
        x.rest(0, false);
        ClockCouncil y = meeting(2, -200, -151);
        y.lead(0, 0);
        y.meet(0, 1);
        y.go(20);
        due("18: behind, by d - s at least", y.lead(0, 250), 15);
        y.go(20);
        due("18: it may stand", y.lead(0, 1000), 15);
        ClockCouncil z = meeting(2, -204, -201, -204, -201);
        z.meet(0, 1);
        z.go(400);
        // SPAN 196 to 199, MIDDLE FLOOR(197.5)
        due("18: MIDDLE", z.lead(0, 1000), 197);
        ClockCouncil n = meeting(2, -1004, -1001, -1004, -1001);
        n.meet(0, 1);
        n.go(1000);
        due("18: MIDDLE below 0", n.lead(0, 1000), 0);
        due("18: PLAIN", meeting(0).lead(0, 0), 0);
        ClockCouncil below = new ClockCouncil();
        below.member(2, 0, 10);
        below.member(4, 0, 0);
        below.lie(1, -10, -9);
        below.ask(0, 1);
        below.go(2);
        below.deliver(0);
        below.deliver(0);
        below.meet(0, 0);
        due("18: its span", below.of(0, 0), -8);
        due("18: its span", below.of(0, 1), -7);
        due("18: FLOOR of half below 0", below.lead(0, 1000), -8);
    }

    private static void stamp() {
        ClockCouncil x = new ClockCouncil();
        due("19: none", x.stamp(0), NO);
        x.member(4, 0, 3);
        x.lie(0, 50, 60);
        x.rest(0, true);
        for (int i = 0; i < 100; i++) {
            due("19: stamp", x.stamp(0), i);
        }
        due("19: the 101st", x.stamp(0), NO);
        due("20: 100", x.given(100, 0), NO);
        due("21: 100", x.ahead(100, 0), NO);
        due("23: 100", x.event(100), NO);
        due("19: count(3)", x.count(3), 100);
        due("19: its own span", x.given(99, 0), -3);
    }

    private static void given() {
        ClockCouncil x = new ClockCouncil();
        x.member(0, 0, 0);
        x.member(1, 0, 2);
        x.rate(1, 1, 2);
        due("20: none", x.given(0, 0), NO);
        x.go(4);
        x.stamp(1);
        x.go(2);
        x.stamp(1);
        due("20: LOW", x.given(0, 0), 0);
        due("20: HIGH", x.given(0, 1), 4);
        due("20: member", x.given(0, 2), 1);
        due("20: in it then", x.given(0, 3), 1);
        due("20: not in it", x.given(1, 3), 0);
        due("20: what -1", x.given(0, -1), NO);
        due("20: what 4", x.given(0, 4), NO);
        due("20: -1", x.given(-1, 0), NO);
        due("20: 2", x.given(2, 0), NO);
    }

    private static void ahead() {
        ClockCouncil x = new ClockCouncil();
        x.member(2, 0, 5);
        x.stamp(0);
        x.go(10);
        x.stamp(0);
        x.go(1);
        x.stamp(0);
        due("21: an end in common", x.ahead(0, 1), 0);
        due("21: an end in common", x.ahead(1, 0), 0);
        due("21: ahead", x.ahead(0, 2), 1);
        due("21: behind", x.ahead(2, 0), -1);
        due("21: itself", x.ahead(1, 1), 0);
        due("21: none", x.ahead(3, 0), NO);
        due("21: none", x.ahead(0, 3), NO);
        due("21: none", x.ahead(-1, 0), NO);
    }

    private static void waiting() {
        ClockCouncil x = new ClockCouncil();
        due("22: none", x.wait(0), NO);
        x.member(2, 0, 5);
        x.member(3, 0, 5);
        x.member(0, 200, 0);
        due("22: no stamps", x.wait(0), 0);
        due("22: BEST", x.wait(1), NO);
        x.stamp(0);
        due("22: -5 to 5", x.wait(0), 11);
        x.go(10);
        due("22: LOW is HIGH", x.wait(0), 1);
        x.go(1);
        due("22: LOW is above", x.wait(0), 0);
        x.stamp(1);
        due("22: of another member", x.wait(0), 11);
        // LOW 0 as of 0, HIGH 16: FLOOR((D - 1) 1000 by 1200) >= 16: D = 21, of which 11 have gone
        due("22: with a drift", x.wait(2), 10);
        for (int left = 10; left > 0; left--) {
            due("22: LOW is not yet above", x.of(2, 0) > 16 ? 1 : 0, 0);
            due("22: by one less each tick", x.wait(2), left);
            x.go(1);
        }
        due("22: LOW is above", x.of(2, 0) > 16 ? 1 : 0, 1);
        due("22: 0 when it is", x.wait(2), 0);
        waitingWithDrift();
    }

    private static void waitingWithDrift() {
        for (int p = 1; p <= 200; p += 33) {
            ClockCouncil x = new ClockCouncil();
            x.member(3, 0, 7);
            x.member(2, p, 0);
            x.stamp(0);
            for (int i = 0; i < 20; i++) {
                long left = x.wait(1);
                long low = x.of(1, 0);
                due("22: 0 when it is, not below", left == 0 ? 1 : 0, low > 7 ? 1 : 0);
                x.go(1);
                due("22: one less", x.wait(1), Math.max(0, left - 1));
            }
            // FLOOR((D - 1) 1000 by (1000 + p)) + 1 = 8: D - 1 is CEIL(7 (1000 + p) by 1000)
            ClockCouncil y = new ClockCouncil();
            y.member(3, 0, 7);
            y.member(2, p, 0);
            y.stamp(0);
            due("22: at first", y.wait(1), 1 + (7 * (1000 + p) + 999) / 1000);
        }
    }

    private static void event() {
        ClockCouncil x = new ClockCouncil();
        due("23: none", x.event(0), NO);
        x.member(2, 0, 5);
        x.stamp(0);
        due("23: -1", x.event(-1), NO);
        due("23: 1", x.event(1), NO);
        for (int i = 0; i < 30; i++) {
            due("23: event", x.event(0), i);
        }
        due("23: the 31st", x.event(0), NO);
        due("24: e 30", x.link(30, 0), NO);
        due("24: g 30", x.link(0, 30), NO);
        due("26: k 30", x.order(30), NO);
        due("27: e 30", x.time(30), NO);
        due("23: count(4)", x.count(4), 30);
        due("23: its LOW", x.time(29), -5);
    }

    private static ClockCouncil events(int n) {
        ClockCouncil x = new ClockCouncil();
        x.member(2, 0, 0);
        x.stamp(0);
        for (int i = 0; i < n; i++) {
            x.event(0);
        }
        return x;
    }

    private static void links(ClockCouncil x, int... ends) {
        for (int i = 0; i < ends.length; i += 2) {
            x.link(ends[i], ends[i + 1]);
        }
    }

    private static void link() {
        ClockCouncil x = events(3);
        due("24: same", x.link(0, 0), NO);
        due("24: e none", x.link(3, 0), NO);
        due("24: g none", x.link(0, 3), NO);
        due("24: e -1", x.link(-1, 0), NO);
        due("24: g -1", x.link(0, -1), NO);
        for (int i = 1; i <= 60; i++) {
            due("24: link", x.link(0, 1 + i % 2), i);
        }
        due("24: the 61st", x.link(0, 1), NO);
        due("24: count(5)", x.count(5), 60);
        due("24: the same LINK often is no RING", x.mend(), 1);
    }

    private static void mend() {
        ClockCouncil x = events(3);
        due("25: without LINKS", x.mend(), 0);
        x.link(2, 1);
        // 0 to 0 each: one tick apart needs w = 1 (CEIL of a half)
        due("25: one LINK", x.mend(), 1);
        due("27: time", x.time(2), -1);
        due("27: time", x.time(1), 0);
        due("27: time", x.time(0), -1);
        x.link(1, 0);
        due("25: two LINKS", x.mend(), 1);
        due("27: time", x.time(2), -1);
        due("27: time", x.time(1), 0);
        due("27: time", x.time(0), 1);
        x.event(0);
        x.link(0, 3);
        due("25: three LINKS", x.mend(), 2);
        due("27: time", x.time(3), 1);
        due("27: none", x.time(4), NO);
        due("27: -1", x.time(-1), NO);
        x.link(3, 2);
        due("25: a RING", x.mend(), -1);
        due("27: a RING", x.time(0), NO);
        ClockCouncil y = new ClockCouncil();
        y.member(2, 0, 3);
        y.stamp(0);
        y.go(4);
        y.stamp(0);
        y.event(1);
        y.event(0);
        y.link(0, 1);
        // 1 to 7 ahead of -3 to 3
        due("25: within the spans", y.mend(), 0);
        due("27: time", y.time(0), 1);
        due("27: time", y.time(1), 2);
    }

    private static void order() {
        ClockCouncil x = new ClockCouncil();
        x.member(2, 0, 1);
        x.stamp(0);
        x.go(5);
        x.stamp(0);
        int[] stamps = {1, 0, 1, 0};
        for (int s : stamps) {
            x.event(s);
        }
        int[] want = {1, 3, 0, 2};
        for (int k = 0; k < 4; k++) {
            due("26: of the same by rising numbers", x.order(k), want[k]);
        }
        due("26: none such", x.order(4), NO);
        due("26: -1", x.order(-1), NO);
        x.link(2, 1);
        // E: 4, 5, 4, -1; 5 - 1 = 4: w = 2
        due("25: mend", x.mend(), 2);
        int[] then = {3, 0, 2, 1};
        for (int k = 0; k < 4; k++) {
            due("26: by rising TIMES", x.order(k), then[k]);
        }
        x.event(0);
        due("26: a new event after the ORDER was asked", x.order(1), 4);
        due("27: its TIME", x.time(4), -3);
        x.link(1, 2);
        due("26: a RING", x.order(0), NO);
        ClockCouncil y = events(2);
        y.link(1, 0);
        due("25: the first event must come late", y.mend(), 1);
    }

    private static void rings(String what, ClockCouncil x, int... want) {
        for (int k = 0; k < want.length; k++) {
            due(what + " ring(" + k + ")", x.ring(k), want[k]);
        }
        due(what + " ring(length)", x.ring(want.length), -1);
        due(what + " ring(far)", x.ring(Integer.MAX_VALUE), -1);
        due(what + " ring(-1)", x.ring(-1), NO);
        due(what + " mend", x.mend(), -1);
    }

    private static void ring() {
        ClockCouncil x = events(8);
        due("28: no RING", x.ring(0), NO);
        links(x, 0, 1, 1, 2, 2, 3);
        due("28: no RING", x.ring(0), NO);
        due("28: no RING", x.ring(-1), NO);
        links(x, 3, 0);
        rings("28: one RING", x, 0, 1, 2, 3);
        links(x, 5, 6, 6, 4, 4, 5);
        rings("28: the fewest", x, 4, 5, 6);
        links(x, 7, 6, 6, 7);
        rings("28: two", x, 6, 7);
        links(x, 3, 2);
        rings("28: the least first", x, 2, 3);
    }

    private static void ringLeast() {
        ClockCouncil x = events(8);
        links(x, 0, 5, 5, 1, 1, 0);
        rings("28: begins with its least", x, 0, 5, 1);
        links(x, 0, 4, 4, 7, 7, 0);
        rings("28: the second is least", x, 0, 4, 7);
        links(x, 4, 6, 6, 0);
        rings("28: the third is least", x, 0, 4, 6);
        ClockCouncil big = events(30);
        for (int i = 0; i < 30; i++) {
            big.link((i + 1) % 30, i);
        }
        due("28: all events", big.ring(0), 0);
        for (int k = 1; k < 30; k++) {
            due("28: all events", big.ring(k), 30 - k);
        }
        due("28: all events", big.ring(30), -1);
    }

    private static void count() {
        ClockCouncil x = events(4);
        x.go(9);
        x.member(2, 0, 0);
        x.ask(0, 1);
        x.ask(0, 1);
        x.ask(0, 1);
        x.ask(0, 1);
        x.lose(0);
        x.deliver(1);
        x.deliver(2);
        x.deliver(2);
        x.link(0, 1);
        x.stamp(0);
        x.stamp(1);
        long[] want = {2, 4, 2, 3, 4, 1, 9};
        for (int what = 0; what < want.length; what++) {
            due("29: count(" + what + ")", x.count(what), want[what]);
        }
        due("29: count(-1)", x.count(-1), NO);
        due("29: count(7)", x.count(7), NO);
    }
}
