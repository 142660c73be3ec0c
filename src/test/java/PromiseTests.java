/** Each promise of the document by hand: ordinary inputs, its edges, and what it refuses, in its order. */
public final class PromiseTests {
    private static final int BAD = -1, STATE = -2, FULL = -3, NONE = -9, NULL = -11, INDEX = -12, CAST = -13, SIZE = -15;
    private static final int NEAR = 0, EVEN = 1, TURN = 2, AHEAD = 3;
    private static final int LOW = Integer.MIN_VALUE, HIGH = Integer.MAX_VALUE;

    private final Check check = new Check();
    private String promise = "";

    private void due(String what, long got, long want) {
        check.due(promise + ": " + what, got, want);
    }

    private static LadderCalls town(int places, int... roads) {
        LadderCalls x = new LadderCalls();
        for (int i = 0; i < places; i++) {
            x.place();
        }
        for (int i = 0; i + 2 < roads.length; i += 3) {
            x.road(roads[i], roads[i + 1], roads[i + 2]);
        }
        return x;
    }

    /** 0 -3- 1 -4- 2 -2- 3, and a detour of 20 from 0 to 3. */
    private static LadderCalls line() {
        return town(4, 0, 1, 3, 1, 2, 4, 2, 3, 2, 0, 3, 20);
    }

    /** Two PLACES 1 from each other, and one 3 behind; LADDERS at both ends. */
    private static LadderCalls seesaw(int rule) {
        LadderCalls x = town(3, 0, 1, 1, 1, 2, 3);
        x.rule(rule);
        x.begin(2, 0 + 8 * 2);
        return x;
    }

    private static LadderCalls called(LadderCalls x, int... places) {
        for (int place : places) {
            x.call(place);
        }
        return x;
    }

    /** All that can be told without a change, but for status(). */
    private static String picture(LadderCalls x) {
        StringBuilder text = new StringBuilder();
        for (int i = 0; i < 6; i++) text.append(x.about(i)).append(' ');
        text.append("| ").append(x.trace()).append(' ').append(x.stand()).append(' ').append(x.ratio()).append(" |");
        for (int i = -1; i < 3; i++) text.append(' ').append(x.cost(i));
        for (int i = 0; i < 13; i++) {
            text.append(" / ").append(x.least(i)).append(' ').append(x.plan(i, i - 1));
            for (int what = 0; what < 4; what++) text.append(' ').append(x.told(i, what));
        }
        for (int a = 0; a < 6; a++) {
            for (int b = 0; b < 6; b++) text.append(' ').append(x.apart(a, b));
        }
        return text.toString();
    }

    /** What lies in the books; it must be looked at after status(), which it changes. */
    private static String shelf(LadderCalls x) {
        StringBuilder text = new StringBuilder();
        for (int book = 0; book < 3; book++) {
            for (int sort = 0; sort < 4; sort++) {
                for (int r = 0; r < 4; r++) {
                    for (int i = 0; i < 8; i++) {
                        text.append(' ').append(x.item(book, sort, r, i)).append(':').append(x.status());
                    }
                }
            }
        }
        return text.toString();
    }

    private void same(String what, LadderCalls x, String was) {
        check.due(promise + ": " + what + " leaves all as it was", picture(x), was);
    }

    private void promise1NewObject() {
        LadderCalls x = new LadderCalls();
        for (int i = 0; i < 6; i++) due("about " + i, x.about(i), 0);
        due("trace", x.trace(), 0);
        due("status", x.status(), 0);
        due("rule", x.rule(TURN), NEAR);
        due("end", x.end(), STATE);
        due("stand", x.stand(), STATE);
        due("roads without a book", x.roads(2), 0);
        due("its status", x.status(), NULL);
        due("a first place", x.place(), 0);
        due("another object's places", new LadderCalls().about(0), 0);
    }

    private void promise2Place() {
        LadderCalls x = new LadderCalls();
        for (int i = 0; i < 6; i++) due("place " + i, x.place(), i);
        due("a seventh", x.place(), FULL);
        due("places", x.about(0), 6);
        for (int i = 1; i < 6; i++) x.road(0, i, 1);
        x.begin(1, 5);
        String was = picture(x);
        due("with ladders, and full", x.place(), STATE);
        same("a refused place()", x, was);
        x.end();
        due("full again", x.place(), FULL);
        LadderCalls y = town(1);
        y.begin(3, 0);
        due("with ladders", y.place(), STATE);
        y.end();
        due("without ladders", y.place(), 1);
    }

    private void promise3Road() {
        LadderCalls x = town(3);
        due("length 1", x.road(0, 1, 1), 1);
        due("length 100", x.road(2, 1, 100), 2);
        due("the same once more", x.road(1, 0, 1), 3);
        String was = picture(x);
        int[][] wrong = {{-1, 1, 5}, {0, -1, 5}, {3, 1, 5}, {1, 3, 5}, {LOW, 1, 5}, {1, HIGH, 5}, {0, 0, 5}, {2, 2, 5},
            {0, 1, 0}, {0, 1, 101}, {0, 1, -7}, {0, 1, LOW}, {0, 1, HIGH}};
        for (int[] w : wrong) due("road " + w[0] + " " + w[1] + " " + w[2], x.road(w[0], w[1], w[2]), BAD);
        same("a BAD road()", x, was);
        for (int i = 4; i <= 15; i++) due("road " + i, x.road(0, 2, 50), i);
        due("a sixteenth", x.road(0, 2, 1), FULL);
        due("apart as it was", x.apart(0, 2), 50);
        due("BAD ahead of FULL", x.road(0, 0, 1), BAD);
        x.begin(1, 0);
        was = picture(x);
        due("STATE ahead of FULL", x.road(0, 2, 1), STATE);
        due("BAD ahead of STATE", x.road(0, 2, 101), BAD);
        same("a road() by day", x, was);
        x.end();
        due("FULL after the day", x.road(0, 2, 1), FULL);
        due("no places", new LadderCalls().road(0, 1, 1), BAD);
    }

    private void promise4Apart() {
        LadderCalls x = line();
        int[][] far = {{0, 3, 7, 9}, {3, 0, 4, 6}, {7, 4, 0, 2}, {9, 6, 2, 0}};
        for (int a = 0; a < 4; a++) {
            for (int b = 0; b < 4; b++) due("apart " + a + " " + b, x.apart(a, b), far[a][b]);
        }
        x.road(3, 0, 1);
        due("by the new road", x.apart(0, 2), 3);
        due("past the new road", x.apart(1, 3), 4);
        x.road(3, 0, 9);
        due("a longer one beside it", x.apart(3, 0), 1);
        x.place();
        due("no way", x.apart(4, 0), NONE);
        due("no way back", x.apart(0, 4), NONE);
        due("torn, to itself", x.apart(4, 4), 0);
        for (int p : new int[] {-1, 5, 6, LOW, HIGH}) {
            due("apart of none " + p, x.apart(p, 0), BAD);
            due("apart to none " + p, x.apart(4, p), BAD);
        }
        LadderCalls y = town(6, 0, 1, 100, 1, 2, 100, 2, 3, 100, 3, 4, 100, 4, 5, 100);
        due("the longest way", y.apart(5, 0), 500);
        due("the longest way back", y.apart(0, 5), 500);
        LadderCalls z = town(6, 0, 1, 7, 2, 3, 7, 4, 5, 7);
        due("three parts", z.apart(1, 2), NONE);
        z.road(3, 4, 1);
        due("two parts joined", z.apart(2, 5), 15);
        due("the third one", z.apart(0, 5), NONE);
    }

    private void promise5Way() {
        LadderCalls x = line();
        due("0 to 3", x.way(0, 3), 1);
        due("3 to 0", x.way(3, 0), 2);
        due("1 to 2", x.way(1, 2), 2);
        due("to itself", x.way(2, 2), 2);
        LadderCalls y = town(4, 0, 3, 2, 0, 2, 1, 2, 3, 1, 0, 1, 1, 1, 3, 1);
        due("first by number of three", y.way(0, 3), 1);
        due("and back", y.way(3, 0), 0);
        LadderCalls z = town(4, 1, 0, 2, 1, 3, 1, 3, 0, 1);
        due("the straight road as long", z.way(1, 0), 0);
        due("through 3 only", town(4, 1, 0, 3, 1, 3, 1, 3, 0, 1).way(1, 0), 3);
        due("no way", z.way(0, 2), NONE);
        due("no way from there", z.way(2, 0), NONE);
        due("torn, to itself", z.way(2, 2), 2);
        for (int p : new int[] {-1, 4, LOW, HIGH}) {
            due("from none " + p, z.way(p, 0), BAD);
            due("to none " + p, z.way(2, p), BAD);
            due("none to itself " + p, z.way(p, p), BAD);
        }
    }

    private void promise6Begin() {
        LadderCalls x = line();
        x.rule(TURN);
        due("1 ladder", x.begin(1, 3), 1);
        due("2 ladders", x.begin(2, 3 + 8 * 1), 1);
        due("3 ladders", x.begin(3, 3 + 8 * 0 + 64 * 2), 1);
        due("stand", x.stand(), 131);
        due("ladders", x.about(2), 3);
        x.begin(2, 0);
        called(x, 1, 2);
        String was = picture(x);
        int[][] wrong = {{0, 0}, {-1, 0}, {4, 0}, {LOW, 0}, {HIGH, 0}, {1, -1}, {1, 4}, {1, 7}, {1, 8}, {2, 4}, {2, 32}, {2, 64},
            {3, 256}, {3, 512}, {3, 4}, {3, LOW}, {3, HIGH}, {2, HIGH}, {1, LOW}, {11, 0}};
        for (int[] w : wrong) due("begin " + w[0] + " " + w[1], x.begin(w[0], w[1]), BAD);
        same("a BAD begin()", x, was);
        due("begin by day", x.begin(2, 9), 1);
        due("calls forgotten", x.about(3), 0);
        due("told forgotten", x.told(0, 0), BAD);
        due("sums forgotten", x.cost(-1), 0);
        due("back to what was", x.back(), STATE);
        due("the turn begins anew", x.call(0), 0);
        due("the rule stays", x.about(4), TURN);
        due("the trace stays", x.trace(), 300);
        due("work from the new beginning", x.least(1), 3);
        x.end();
        x.place();
        due("torn", x.begin(1, 0), STATE);
        due("BAD ahead of torn", x.begin(1, 5), BAD);
        due("BAD ahead of torn, ladders", x.begin(4, 0), BAD);
        due("no ladders came", x.about(2), 0);
        due("no places", new LadderCalls().begin(1, 0), BAD);
        due("one place", town(1).begin(3, 0), 1);
        LadderCalls y = town(6, 0, 1, 1, 1, 2, 1, 2, 3, 1, 3, 4, 1, 4, 5, 1);
        due("the last stand", y.begin(3, 5 + 40 + 320), 1);
        due("its number", y.stand(), 365);
    }

    private void promise7End() {
        LadderCalls x = seesaw(NEAR);
        called(x, 0, 1, 2);
        due("end", x.end(), 3);
        due("again", x.end(), STATE);
        due("ladders", x.about(2), 0);
        due("calls", x.about(3), 0);
        due("told", x.told(0, 0), BAD);
        due("back", x.back(), STATE);
        due("places stay", x.about(0), 3);
        x.begin(1, 0);
        due("a day without calls", x.end(), 0);
    }

    private void promise8Rule() {
        LadderCalls x = seesaw(NEAR);
        due("EVEN", x.rule(EVEN), NEAR);
        due("TURN", x.rule(TURN), EVEN);
        due("AHEAD", x.rule(AHEAD), TURN);
        for (int kind : new int[] {-1, 4, LOW, HIGH}) due("rule " + kind, x.rule(kind), BAD);
        due("it stays", x.about(4), AHEAD);
        due("itself again", x.rule(AHEAD), AHEAD);
        x.end();
        due("without ladders", x.rule(NEAR), AHEAD);
    }

    private void promise9Call() {
        LadderCalls x = line();
        due("BAD ahead of STATE", x.call(4), BAD);
        due("no ladders", x.call(0), STATE);
        x.begin(3, 0 + 8 * 3 + 64 * 3);
        due("the nearest, the first of two", x.call(2), 1);
        due("the one there", x.call(0), 0);
        due("the last one there", x.call(3), 2);
        due("where it stands", x.stand(), 0 + 8 * 2 + 64 * 3);
        for (int p : new int[] {-1, 4, LOW, HIGH}) due("call " + p, x.call(p), BAD);
        for (int i = 3; i < 12; i++) due("call " + i, x.call(0), 0);
        String was = picture(x);
        due("a thirteenth", x.call(0), FULL);
        due("BAD ahead of FULL", x.call(4), BAD);
        same("a refused call()", x, was);
        callsByEven();
        callsByTurn();
        callsByAhead();
    }

    private void callsByEven() {
        LadderCalls x = town(4, 0, 1, 1, 1, 2, 3, 2, 3, 10);
        x.rule(EVEN);
        x.begin(2, 0 + 8 * 2);
        due("EVEN: 0+1 under 0+3", x.call(1), 0);
        due("EVEN: 1+1 under 0+4", x.call(0), 0);
        due("EVEN: 2+1 as 0+3, the first", x.call(1), 0);
        due("EVEN: 3+1 as 0+4, the first", x.call(0), 0);
        due("EVEN: 4+1 above 0+3", x.call(1), 1);
        due("EVEN: one stands there", x.call(0), 0);
        due("EVEN: 4+14 above 3+13", x.call(3), 1);
        due("EVEN: up, the first that stands there", x.call(0), 0);
        due("EVEN: cost of 0", x.cost(0), 4);
        due("EVEN: cost of 1", x.cost(1), 16);
        x.begin(2, 2 + 8 * 2);
        due("EVEN: two stand there", x.call(2), 0);
        due("EVEN: trace", x.trace(), 10 * 9 + 3);
    }

    private void callsByTurn() {
        LadderCalls x = town(5, 0, 1, 1, 1, 2, 1, 2, 3, 1, 3, 4, 1);
        x.rule(TURN);
        x.begin(3, 0);
        due("TURN: up ahead of all turns", x.call(0), 0);
        due("TURN: first", x.call(1), 0);
        due("TURN: second", x.call(2), 1);
        due("TURN: up, to the first", x.call(1), 0);
        due("TURN: third, all the same", x.call(3), 2);
        due("TURN: behind the last", x.call(4), 0);
        x.rule(NEAR);
        due("NEAR between", x.call(0), 1);
        x.rule(TURN);
        due("TURN: after a NEAR", x.call(1), 1);
        x.rule(EVEN);
        due("EVEN between", x.call(0), 1);
        x.rule(TURN);
        due("TURN: not by the EVEN", x.call(2), 2);
        due("TURN: trace", x.trace(), 100 * 8 + 2 + 1 + 10);
    }

    private void callsByAhead() {
        LadderCalls x = seesaw(AHEAD);
        for (int i = 0; i < 6; i++) due("AHEAD: call " + i, x.call((i + 1) % 2), 0);
        due("AHEAD: 7+1 above 3+3", x.call(1), 1);
        due("AHEAD: up two", x.call(0), 0);
        due("AHEAD: trace", x.trace(), 8001);
        due("AHEAD: cost", x.cost(-1), 9);
        LadderCalls one = town(2, 0, 1, 7);
        one.rule(AHEAD);
        one.begin(1, 0);
        due("AHEAD: one ladder", one.call(1), 0);
        due("AHEAD: up, its trace", one.trace(), 1010);
        due("AHEAD: one ladder there", one.call(1), 0);
        due("AHEAD: up two, its trace", one.trace(), 2011);
        LadderCalls tie = town(3, 0, 1, 2, 1, 2, 2);
        tie.rule(AHEAD);
        tie.begin(2, 2);
        due("AHEAD: of several the first", tie.call(1), 0);
    }

    private void promise10Back() {
        LadderCalls x = seesaw(TURN);
        due("none yet", x.back(), STATE);
        String[] was = new String[12];
        int[] calls = {1, 0, 2, 1, 0, 0, 2, 1, 0, 2, 1, 1};
        for (int i = 0; i < 12; i++) {
            was[i] = picture(x).replaceFirst("\\| \\d+ ", "| ");
            x.rule((i + TURN) % 4);
            x.call(calls[i]);
            x.rule(TURN);
        }
        long trace = x.trace();
        for (int i = 11; i >= 0; i--) {
            due("left", x.back(), i);
            check.due(promise + ": as ahead of call " + i, picture(x).replaceFirst("\\| \\d+ ", "| "), was[i]);
        }
        due("the trace stays", x.trace(), trace);
        due("none left", x.back(), STATE);
        x.rule(EVEN);
        x.call(1);
        x.rule(AHEAD);
        x.back();
        due("the rule stays", x.about(4), AHEAD);
        x.rule(TURN);
        due("the turn is the first again", x.call(1), 0);
        due("the next", x.call(0), 1);
        x.back();
        due("the next again", x.call(0), 1);
        x.end();
        due("no ladders", x.back(), STATE);
    }

    private void promise11Cruel() {
        LadderCalls x = line();
        due("no ladders", x.cruel(), STATE);
        x.begin(2, 0 + 8 * 2);
        due("the first bare place", x.cruel(), 1);
        due("who went", x.told(0, 1), 0);
        due("now 0 is bare", x.cruel(), 0);
        due("by the rule", x.trace(), 2);
        for (int i = 2; i < 12; i++) x.cruel();
        due("all came", x.about(3), 12);
        String was = picture(x);
        due("FULL", x.cruel(), FULL);
        same("a refused cruel()", x, was);
        LadderCalls y = town(2, 0, 1, 1);
        y.begin(2, 1);
        due("no such place", y.cruel(), STATE);
        called(y, 0, 1, 0, 1, 0, 1, 0, 1, 0, 1, 0, 1);
        due("no such place ahead of FULL", y.cruel(), STATE);
        y.begin(3, 0);
        due("three at one place", y.cruel(), 1);
    }

    private void promise12Ask() {
        LadderCalls x = line();
        due("BAD ahead of STATE", x.ask(-1), BAD);
        due("no ladders", x.ask(0), STATE);
        x.begin(2, 0 + 8 * 3);
        due("near 0", x.ask(1), 0);
        due("near 3", x.ask(2), 1);
        due("no call came", x.about(3), 0);
        due("the trace counts", x.trace(), 2);
        for (int p : new int[] {-1, 4, LOW, HIGH}) due("ask " + p, x.ask(p), BAD);
        due("the trace does not", x.trace(), 2);
        x.rule(TURN);
        due("a turn", x.ask(1), 0);
        due("the same turn", x.ask(1), 0);
        due("the same turn comes", x.call(1), 0);
        due("the next turn", x.ask(0), 1);
        LadderCalls y = seesaw(NEAR);
        called(y, 1, 0, 1, 0, 1, 0, 1, 0, 1, 0, 1, 0);
        due("full, NEAR", y.ask(1), 0);
        y.rule(AHEAD);
        String was = picture(y);
        due("full, AHEAD", y.ask(1), 1);
        check.due(promise + ": ask() leaves all but the trace", picture(y), was.replaceFirst("\\| 13 ", "| 1013 "));
        due("full, AHEAD, up two", y.ask(2), 1);
        y.back();
        due("another one after back()", y.ask(2), 1);
        due("work is as it was", y.work(11, 1 + 8 * 2), 7);
        LadderCalls z = seesaw(AHEAD);
        z.ask(1);
        z.call(0);
        due("another call than the one asked for", z.least(1), 0);
        z.ask(2);
        due("asked for, but not come", z.least(2), BAD);
    }

    private void promise13Stand() {
        LadderCalls x = line();
        due("no ladders", x.stand(), STATE);
        x.begin(1, 3);
        due("one", x.stand(), 3);
        x.begin(3, 1 + 8 * 2 + 64 * 3);
        due("three", x.stand(), 209);
        x.call(0);
        due("ladder 0 went", x.stand(), 208);
        x.back();
        due("and came back", x.stand(), 209);
        x.end();
        due("after the day", x.stand(), STATE);
    }

    private void promise14Told() {
        LadderCalls x = line();
        x.begin(2, 0 + 8 * 3);
        due("no call", x.told(0, 0), BAD);
        x.call(2);
        x.rule(TURN);
        x.call(1);
        x.rule(AHEAD);
        x.call(1);
        x.rule(EVEN);
        int[][] want = {{2, 1, 2, NEAR}, {1, 0, 3, TURN}, {1, 0, 0, AHEAD}};
        for (int i = 0; i < 3; i++) {
            for (int what = 0; what < 4; what++) due("told " + i + " " + what, x.told(i, what), want[i][what]);
        }
        for (int w : new int[] {-1, 4, LOW, HIGH}) due("what " + w, x.told(0, w), BAD);
        for (int i : new int[] {-1, 3, 12, LOW, HIGH}) due("call " + i, x.told(i, 0), BAD);
        x.back();
        due("taken back", x.told(2, 0), BAD);
        x.end();
        due("after the day", x.told(0, 0), BAD);
    }

    private void promise15Cost() {
        LadderCalls x = line();
        for (int l : new int[] {-1, 0, 1, 3, -2}) due("no ladders, cost " + l, x.cost(l), STATE);
        x.begin(2, 0 + 8 * 3);
        due("nothing yet", x.cost(-1), 0);
        called(x, 1, 2, 0);
        due("all", x.cost(-1), 8);
        due("of 0", x.cost(0), 6);
        due("of 1", x.cost(1), 2);
        for (int l : new int[] {2, 3, -2, LOW, HIGH}) due("cost " + l, x.cost(l), BAD);
        x.back();
        due("one back", x.cost(-1), 5);
        LadderCalls y = town(6, 0, 1, 100, 1, 2, 100, 2, 3, 100, 3, 4, 100, 4, 5, 100);
        y.begin(1, 0);
        called(y, 5, 0, 5, 0, 5, 0, 5, 0, 5, 0, 5, 0);
        due("the dearest day", y.cost(-1), 6000);
    }

    private void promise16Moves() {
        LadderCalls x = line();
        due("no ladders", x.moves(0, 0), STATE);
        due("STATE ahead of BAD", x.moves(-1, 9999), STATE);
        x.begin(1, 0);
        due("one", x.moves(0, 3), 9);
        due("two digits", x.moves(0, 8), BAD);
        x.begin(2, 0);
        due("itself", x.moves(24, 24), 0);
        due("the same places", x.moves(0 + 8 * 3, 3 + 8 * 0), 0);
        due("as they are numbered", x.moves(0 + 8 * 3, 1 + 8 * 2), 5);
        due("crossed", x.moves(0 + 8 * 3, 2 + 8 * 1), 5);
        due("one to each", x.moves(0 + 8 * 0, 0 + 8 * 3), 9);
        due("two to one", x.moves(0 + 8 * 3, 3 + 8 * 3), 9);
        due("three digits", x.moves(0, 64), BAD);
        int[] wrong = {-1, 4, 32, 36, LOW, HIGH};
        for (int s : wrong) {
            due("from none " + s, x.moves(s, 0), BAD);
            due("to none " + s, x.moves(0, s), BAD);
        }
        x.begin(3, 0);
        int stand = 0 + 8 * 1 + 64 * 3;
        int[] likes = {stand, 0 + 8 * 3 + 64, 1 + 64 * 3, 1 + 8 * 3, 3 + 64, 3 + 8};
        for (int like : likes) {
            due("three, like " + like, x.moves(like, stand), 0);
            due("three, from " + like, x.moves(like, 2 + 8 * 2 + 64 * 2), 13);
            due("three, to " + like, x.moves(1 + 8 + 64 * 2, like), 3 + 0 + 2);
        }
        due("four digits", x.moves(512, 0), BAD);
    }

    private void promise17Work() {
        LadderCalls x = line();
        due("no ladders", x.work(0, 0), STATE);
        due("STATE ahead of BAD", x.work(-1, -1), STATE);
        x.begin(2, 0 + 8 * 3);
        due("of no calls", x.work(0, 1 + 8 * 2), 5);
        called(x, 1, 2, 1);
        due("of all", x.work(3, 2 + 8 * 1), 5);
        due("of all, like it", x.work(3, 1 + 8 * 2), 5);
        due("of one", x.work(1, 0 + 8 * 3), 6);
        due("of none still", x.work(0, 0 + 8 * 3), 0);
        due("back to the beginning", x.work(3, 0 + 8 * 3), 10);
        due("both at 1", x.work(3, 1 + 8 * 1), 9);
        due("too many", x.work(4, 9), BAD);
        for (int n : new int[] {-1, LOW, HIGH}) due("work of " + n, x.work(n, 9), BAD);
        for (int s : new int[] {-1, 4, 32, 64, LOW, HIGH}) due("no stand " + s, x.work(1, s), BAD);
        LadderCalls y = town(2, 0, 1, 7);
        y.begin(1, 1);
        called(y, 1, 0, 1);
        due("one ladder", y.work(3, 0), 21);
        LadderCalls z = town(6, 0, 1, 1, 1, 2, 1, 2, 3, 1, 3, 4, 1, 4, 5, 1);
        z.begin(3, 0);
        called(z, 5, 3, 0, 5, 3, 0, 5, 3, 0, 5, 3, 0);
        due("three ladders, 12 calls", z.work(12, 0 + 8 * 3 + 64 * 5), 8);
        due("all at 5", z.work(12, 5 + 8 * 5 + 64 * 5), 15);
    }

    private void promise18Least() {
        LadderCalls x = line();
        due("no ladders", x.least(0), STATE);
        due("STATE ahead of BAD", x.least(-1), STATE);
        x.begin(2, 0 + 8 * 3);
        due("of none", x.least(0), 0);
        called(x, 1, 2, 1);
        int[] want = {0, 3, 5, 5};
        for (int n = 0; n < 4; n++) due("least " + n, x.least(n), want[n]);
        for (int n : new int[] {-1, 4, 13, LOW, HIGH}) due("least " + n, x.least(n), BAD);
        x.back();
        due("one back", x.least(3), BAD);
        x.call(3);
        due("another one", x.least(3), 7);
        x.back();
        x.call(0);
        due("still another one", x.least(3), 8);
        x.begin(2, 3 + 8 * 3);
        x.call(1);
        due("the same call from another beginning", x.least(1), 6);
        x.begin(2, 0 + 8 * 3);
        x.call(1);
        due("and from the first one", x.least(1), 3);
        x.begin(1, 3);
        x.call(1);
        due("with one ladder", x.least(1), 6);
        LadderCalls y = seesaw(NEAR);
        called(y, 1, 0, 1, 0, 1, 0, 1, 0, 1, 0, 1, 0);
        int[] seesaw = {0, 1, 2, 3, 3, 3, 3, 3, 3, 3, 3, 3, 3};
        for (int n = 0; n < 13; n++) due("seesaw, least " + n, y.least(n), seesaw[n]);
    }

    private void promise19Plan() {
        LadderCalls x = line();
        due("no ladders", x.plan(1, 0), STATE);
        due("STATE ahead of BAD", x.plan(-1, -1), STATE);
        LadderCalls y = seesaw(NEAR);
        called(y, 1, 0, 1, 0, 1, 0, 1, 0, 1, 0, 1, 0);
        due("two calls, first", y.plan(2, 0), 0);
        due("two calls, second", y.plan(2, 1), 0);
        for (int i = 0; i < 3; i++) due("three calls, the first that may go " + i, y.plan(3, i), 0);
        for (int n = 4; n <= 12; n++) {
            for (int i = 0; i < n; i++) due("plan " + n + " " + i, y.plan(n, i), (i + 1) % 2);
        }
        int[][] wrong = {{0, 0}, {1, 1}, {3, 3}, {3, -1}, {13, 0}, {-1, 0}, {LOW, 0}, {HIGH, 0}, {3, LOW}, {3, HIGH}};
        for (int[] w : wrong) due("plan " + w[0] + " " + w[1], y.plan(w[0], w[1]), BAD);
        LadderCalls z = town(3, 0, 1, 1, 1, 2, 1);
        z.begin(2, 1 + 8 * 0);
        called(z, 0, 1);
        due("the one that stands there", z.plan(1, 0), 1);
        due("not a dearer first one", z.plan(2, 0), 1);
        LadderCalls both = town(3, 0, 1, 1, 0, 2, 1);
        both.begin(2, 1 + 8 * 0);
        called(both, 0, 2, 0);
        due("a first one that is not dearer in the end", both.plan(3, 0), 0);
        due("it goes on", both.plan(3, 1), 0);
        due("the other one is still there", both.plan(3, 2), 1);
        due("of two calls it is dearer", both.plan(2, 0), 1);
        z.begin(3, 1 + 8 * 1 + 64 * 1);
        called(z, 0, 2, 1, 0, 2);
        int[] three = {0, 1, 2, 0, 1};
        for (int i = 0; i < 5; i++) due("three ladders " + i, z.plan(5, i), three[i]);
    }

    private void promise20Ratio() {
        LadderCalls x = seesaw(NEAR);
        due("no calls", x.ratio(), NONE);
        called(x, 0, 2);
        due("least is 0", x.ratio(), NONE);
        called(x, 1, 0, 1, 0);
        due("4 by 3, cut off", x.ratio(), 1333);
        called(x, 1, 0, 1);
        due("7 by 3, cut off", x.ratio(), 2333);
        x.end();
        due("no ladders", x.ratio(), STATE);
        LadderCalls y = town(6, 0, 1, 100, 1, 2, 100, 2, 3, 100, 3, 4, 100, 4, 5, 100);
        y.begin(1, 0);
        called(y, 5, 0, 5, 0, 5, 0, 5, 0, 5, 0, 5, 0);
        due("the dearest", y.ratio(), 1000);
    }

    private void promise21Worst() {
        LadderCalls x = town(3, 0, 1, 1, 1, 2, 1);
        due("no ladders", x.worst(1, 0), STATE);
        due("STATE ahead of BAD", x.worst(0, 3), STATE);
        x.begin(2, 0);
        called(x, 2, 1);
        x.rule(TURN);
        String was = picture(x);
        int[][] want = {{0, 0, 0}, {10, 3, 2}, {80, 4, 2}};
        for (int n = 1; n <= 3; n++) {
            for (int what = 0; what < 3; what++) due("worst " + n + " " + what, x.worst(n, what), want[n - 1][what]);
        }
        // 3 * 3 CALLS, 3 * 18, 3 * 81; a LADDER stands there in 1, 3 + 5, 9 + 15 + 17 of them
        check.due(promise + ": worst() leaves all but the trace", picture(x),
            was.replaceFirst("\\| \\d+ ", "| " + (2 + 3 * (300 + 1800 + 8100) + 3 * (1 + 8 + 41)) + " "));
        long trace = x.trace();
        int[][] wrong = {{0, 0}, {4, 0}, {-1, 0}, {LOW, 0}, {HIGH, 0}, {1, -1}, {1, 3}, {3, LOW}, {3, HIGH}};
        for (int[] w : wrong) due("worst " + w[0] + " " + w[1], x.worst(w[0], w[1]), BAD);
        due("the trace of none", x.trace(), trace);
        LadderCalls y = town(2, 0, 1, 9);
        y.begin(1, 1);
        due("one ladder: the first row", y.worst(2, 0), 0);
        due("its cost", y.worst(2, 1), 9);
        due("its least", y.worst(2, 2), 9);
        LadderCalls z = town(6, 0, 1, 2, 1, 2, 2, 2, 3, 2, 3, 4, 2, 4, 5, 2);
        z.rule(AHEAD);
        z.begin(1, 0);
        due("six places, three calls, all of them", z.worst(3, 0), 0);
        due("up two for 36 + 36 + 36, up for the others", z.trace(), 648 * 1000L + 108 + 540 * 10);
    }

    private void promise22Book() {
        LadderCalls x = new LadderCalls();
        for (int sort = 0; sort < 4; sort++) {
            for (int n = 0; n <= 4; n++) due("book of " + n, x.book(2, sort, n), 1);
        }
        due("all missing", x.put(2, 3, 3, 0, 1), NULL);
        due("one behind", x.put(2, 3, 4, 0, 1), INDEX);
        x.row(2, 3, 2);
        x.put(2, 3, 3, 1, 77);
        String was = shelf(x);
        int[][] wrong = {{-1, 0, 1}, {3, 0, 1}, {LOW, 0, 1}, {HIGH, 0, 1}, {2, -1, 1}, {2, 4, 1}, {2, LOW, 1}, {2, HIGH, 1},
            {2, 0, 5}, {2, 0, HIGH}, {3, 0, -1}, {2, 4, -1}};
        for (int[] w : wrong) {
            due("book " + w[0] + " " + w[1] + " " + w[2], x.book(w[0], w[1], w[2]), BAD);
            due("its status", x.status(), BAD);
        }
        due("below 0", x.book(2, 0, -1), SIZE);
        due("its status", x.status(), SIZE);
        due("far below 0", x.book(2, 0, LOW), SIZE);
        check.due(promise + ": a refused book() leaves all", shelf(x), was);
        due("a new one", x.book(2, 3, 4), 1);
        due("its status", x.status(), 0);
        due("missing again", x.item(2, 3, 3, 1), 0);
        due("its status", x.status(), NULL);
        x.book(0, 1, 1);
        due("none in between", x.row(1, 0, 1), NULL);
    }

    private void promise23Row() {
        LadderCalls x = new LadderCalls();
        due("no book", x.row(0, 0, 1), NULL);
        due("NULL ahead of INDEX and SIZE", x.row(0, 9, -1), NULL);
        due("BAD ahead of NULL", x.row(0, 0, 9), BAD);
        x.book(0, 2, 4);
        for (int n = 0; n <= 8; n++) due("row of " + n, x.row(0, 3, n), 1);
        for (int i = 0; i < 8; i++) due("0 at first", x.item(0, 2, 3, i), 0);
        due("status", x.status(), 0);
        x.put(0, 2, 3, 0, 11);
        x.put(0, 2, 3, 7, 12);
        String was = shelf(x);
        for (int b : new int[] {-1, 3, LOW, HIGH}) due("book " + b, x.row(b, 0, 1), BAD);
        due("9 numbers", x.row(0, 3, 9), BAD);
        due("9 numbers of no row", x.row(0, 4, 9), BAD);
        for (int r : new int[] {-1, 4, LOW, HIGH}) {
            due("row " + r, x.row(0, r, 1), INDEX);
            due("INDEX ahead of SIZE", x.row(0, r, -1), INDEX);
        }
        due("status", x.status(), INDEX);
        due("below 0", x.row(0, 3, -1), SIZE);
        due("far below 0", x.row(0, 0, LOW), SIZE);
        check.due(promise + ": a refused row() leaves all", shelf(x), was);
        due("a new one", x.row(0, 3, 8), 1);
        due("0 again", x.item(0, 2, 3, 7), 0);
        due("the first one, too", x.item(0, 2, 3, 0), 0);
        due("a row of none", x.row(0, 1, 0), 1);
        due("has no number", x.put(0, 2, 1, 0, 1), INDEX);
        x.book(1, 0, 0);
        due("a book of none", x.row(1, 0, 0), INDEX);
    }

    private void promise24Put() {
        LadderCalls x = new LadderCalls();
        long[] values = {5, -1, 127, 128, 255, 256, -129, 32768, 65535, -32769, 2147483648L, 4294967297L, Long.MIN_VALUE, Long.MAX_VALUE};
        for (int sort = 0; sort < 4; sort++) {
            x.book(1, sort, 4);
            x.row(1, 3, 8);
            for (long v : values) {
                long want = sort == 0 ? (byte) v : sort == 1 ? (short) v : sort == 2 ? (int) v : v;
                due("put " + v, x.put(1, sort, 3, 7, v), 1);
                due("item of sort " + sort, x.item(1, sort, 3, 7), want);
                due("beside it", x.item(1, sort, 3, 6), 0);
            }
        }
        x.book(1, 2, 2);
        x.row(1, 0, 3);
        x.put(1, 2, 0, 2, 9);
        String was = shelf(x);
        refusedNumbers(x, true);
        check.due(promise + ": a refused put() leaves all", shelf(x), was);
    }

    /** Refusals of put() and of item(), each with all that comes behind it wrong as well. */
    private void refusedNumbers(LadderCalls x, boolean put) {
        int[][] wrong = {{-1, 2, 0, 0, BAD}, {3, 2, 0, 0, BAD}, {LOW, 9, 9, 9, BAD}, {HIGH, 2, 0, 0, BAD}, {1, -1, 0, 0, BAD},
            {1, 4, 9, 9, BAD}, {0, 4, 0, 0, BAD}, {0, 2, 0, 0, NULL}, {2, 2, 9, 9, NULL}, {1, 3, 0, 0, CAST}, {1, 0, -1, 9, CAST},
            {1, 1, 1, 0, CAST}, {1, 2, 2, 0, INDEX}, {1, 2, -1, 9, INDEX}, {1, 2, LOW, 0, INDEX}, {1, 2, HIGH, 0, INDEX},
            {1, 2, 1, 0, NULL}, {1, 2, 1, 9, NULL}, {1, 2, 1, -1, NULL}, {1, 2, 0, 3, INDEX}, {1, 2, 0, 7, INDEX},
            {1, 2, 0, -1, INDEX}, {1, 2, 0, LOW, INDEX}, {1, 2, 0, HIGH, INDEX}};
        for (int[] w : wrong) {
            String what = (put ? "put " : "item ") + w[0] + " " + w[1] + " " + w[2] + " " + w[3];
            if (put) {
                due(what, x.put(w[0], w[1], w[2], w[3], 4), w[4]);
            } else {
                due(what, x.item(w[0], w[1], w[2], w[3]), 0);
            }
            due(what + ", status", x.status(), w[4]);
        }
    }

    private void promise25Item() {
        LadderCalls x = new LadderCalls();
        x.book(1, 2, 2);
        x.row(1, 0, 3);
        x.put(1, 2, 0, 1, -12);
        x.put(1, 2, 0, 2, 9);
        refusedNumbers(x, false);
        due("a number", x.item(1, 2, 0, 1), -12);
        due("its status", x.status(), 0);
        due("another", x.item(1, 2, 0, 2), 9);
        due("a first 0", x.item(1, 2, 0, 0), 0);
        due("its status", x.status(), 0);
    }

    private static void fill(LadderCalls x, int book, int sort, int r, long... numbers) {
        x.row(book, r, numbers.length);
        for (int i = 0; i < numbers.length; i++) {
            x.put(book, sort, r, i, numbers[i]);
        }
    }

    private void roads(String what, LadderCalls x, int came, int status) {
        due(what, x.roads(0), came);
        due(what + ", status", x.status(), status);
    }

    private void promise26Roads() {
        LadderCalls x = town(3);
        for (int b : new int[] {-1, 3, LOW, HIGH}) {
            due("book " + b, x.roads(b), BAD);
            due("its status", x.status(), BAD);
        }
        roads("no book", x, 0, NULL);
        x.book(0, 3, 0);
        roads("a book of none", x, 0, 0);
        x.book(0, 3, 4);
        roads("all missing", x, 0, NULL);
        fill(x, 0, 3, 0, 0, 1, 5, 99);
        fill(x, 0, 3, 2, 1, 2, 6);
        fill(x, 0, 3, 3, 0, 2, 7);
        roads("the second missing", x, 1, NULL);
        due("only one came", x.about(1), 1);
        fill(x, 0, 3, 1, 9, 9);
        roads("two numbers", x, 1, INDEX);
        fill(x, 0, 3, 1);
        roads("no numbers", x, 1, INDEX);
        fill(x, 0, 3, 1, 4294967296L, 1, 5);
        roads("beyond an int, place", x, 1, BAD);
        fill(x, 0, 3, 1, 0, 4294967297L, 5);
        roads("beyond an int, other place", x, 1, BAD);
        fill(x, 0, 3, 1, 0, 1, 4294967297L);
        roads("beyond an int, length", x, 1, BAD);
        fill(x, 0, 3, 1, 0, 1, -4294967295L);
        roads("below an int, length", x, 1, BAD);
        fill(x, 0, 3, 1, 1, 1, 5);
        roads("to itself", x, 1, BAD);
        due("nine came", x.about(1), 8);
        fill(x, 0, 3, 1, 1, 0, 4);
        roads("all", x, 4, 0);
        due("they lie there", x.apart(2, 1), 6);
        due("the shorter one", x.apart(0, 1), 4);
        roads("all but one", x, 3, FULL);
        due("15", x.about(1), 15);
        roads("none", x, 0, FULL);
        x.begin(1, 0);
        roads("STATE ahead of FULL", x, 0, STATE);
        fill(x, 0, 3, 0, 0, 0, 0);
        roads("BAD ahead of STATE", x, 0, BAD);
        x.row(0, 0, 2);
        roads("INDEX by day", x, 0, INDEX);
        x.book(0, 3, 1);
        roads("NULL by day", x, 0, NULL);
        LadderCalls y = town(2);
        y.book(2, 0, 1);
        fill(y, 2, 0, 0, 256, 257, 356);
        due("of bytes, as cast", y.roads(2), 1);
        due("their length", y.apart(0, 1), 100);
    }

    private void calls(String what, LadderCalls x, int r, int came, int status) {
        due(what, x.calls(0, r), came);
        due(what + ", status", x.status(), status);
    }

    private void promise27Calls() {
        LadderCalls x = town(3, 0, 1, 1, 1, 2, 3);
        for (int b : new int[] {-1, 3, LOW, HIGH}) {
            due("book " + b, x.calls(b, 0), BAD);
            due("its status", x.status(), BAD);
        }
        calls("no book", x, 0, 0, NULL);
        calls("NULL ahead of INDEX", x, -1, 0, NULL);
        x.book(0, 3, 3);
        for (int r : new int[] {-1, 3, LOW, HIGH}) calls("no row " + r, x, r, 0, INDEX);
        calls("missing", x, 1, 0, NULL);
        fill(x, 0, 3, 0);
        calls("no numbers", x, 0, 0, 0);
        fill(x, 0, 3, 1, 1, 0, 1);
        calls("no ladders", x, 1, 0, STATE);
        fill(x, 0, 3, 2, 3, 0);
        calls("BAD ahead of STATE", x, 2, 0, BAD);
        x.begin(2, 16);
        calls("all", x, 1, 3, 0);
        due("they came", x.about(3), 3);
        due("the third", x.told(2, 0), 1);
        due("by the rule", x.cost(0), 3);
        fill(x, 0, 3, 2, 2, 1, 4294967296L, 1);
        calls("beyond an int", x, 2, 2, BAD);
        due("those ahead came", x.about(3), 5);
        fill(x, 0, 3, 2, 0, 0, 0, -1);
        calls("no place", x, 2, 3, BAD);
        fill(x, 0, 3, 2, 0, 1, 0, 1, 0, 1, 0, 1);
        calls("too many", x, 2, 4, FULL);
        due("12", x.about(3), 12);
        calls("full", x, 2, 0, FULL);
        fill(x, 0, 3, 2, 3);
        calls("BAD ahead of FULL", x, 2, 0, BAD);
        calls("no numbers, full", x, 0, 0, 0);
        due("the trace", x.trace(), 12);
    }

    private void promise28About() {
        LadderCalls x = new LadderCalls();
        due("no places, torn", x.about(5), 0);
        x.place();
        due("one place, torn", x.about(5), 0);
        x.place();
        due("two, torn", x.about(5), 1);
        x.place();
        x.road(0, 2, 5);
        due("torn still", x.about(5), 1);
        x.road(1, 2, 5);
        due("not torn", x.about(5), 0);
        x.rule(TURN);
        x.begin(3, 0);
        called(x, 1, 2);
        int[] want = {3, 2, 3, 2, TURN, 0};
        for (int i = 0; i < 6; i++) due("about " + i, x.about(i), want[i]);
        for (int w : new int[] {-1, 6, LOW, HIGH}) due("about " + w, x.about(w), BAD);
        x.end();
        due("ladders after the day", x.about(2), 0);
        due("calls after the day", x.about(3), 0);
        due("torn, two parts", town(4, 0, 1, 1, 2, 3, 1).about(5), 1);
    }

    private void promise29Trace() {
        LadderCalls x = seesaw(NEAR);
        due("nothing asked", x.trace(), 0);
        int[] own = {1, 10, 100, 1000};
        int[] up = {0, 1, 1, 1};
        long trace = 0;
        for (int kind = 0; kind < 4; kind++) {
            x.rule(kind);
            x.begin(2, 16);
            x.ask(1);
            trace += own[kind];
            due("ask by " + kind, x.trace(), trace);
            x.ask(0);
            trace += own[kind] + up[kind];
            due("ask by " + kind + ", one stands there", x.trace(), trace);
            x.cruel();
            trace += own[kind];
            due("cruel by " + kind, x.trace(), trace);
        }
        x.work(1, 16);
        x.least(1);
        x.plan(1, 0);
        x.ratio();
        x.back();
        x.back();
        x.call(9);
        x.end();
        x.call(0);
        x.cruel();
        x.worst(2, 0);
        due("what asks no rule", x.trace(), trace);
    }

    private void promise30Status() {
        LadderCalls x = new LadderCalls();
        x.row(0, 0, 0);
        due("row", x.status(), NULL);
        due("it stays", x.status(), NULL);
        x.place();
        x.place();
        x.road(0, 0, 0);
        x.road(0, 1, 1);
        x.begin(9, 9);
        x.begin(1, 0);
        x.call(7);
        x.call(1);
        x.ask(-1);
        x.plan(9, 9);
        x.worst(9, 9);
        x.about(9);
        x.end();
        due("the others leave it", x.status(), NULL);
        x.book(0, 3, 1);
        due("book", x.status(), 0);
        x.book(0, 3, 5);
        due("book refused", x.status(), BAD);
        x.row(0, 0, 3);
        due("row came", x.status(), 0);
        x.put(0, 2, 0, 0, 1);
        due("put refused", x.status(), CAST);
        x.put(0, 3, 0, 1, 1);
        due("put", x.status(), 0);
        x.item(0, 3, 0, 3);
        due("item refused", x.status(), INDEX);
        x.item(0, 3, 0, 1);
        due("item", x.status(), 0);
        x.roads(0);
        due("roads ended", x.status(), BAD);
        x.put(0, 3, 0, 2, 1);
        x.row(0, 0, -1);
        due("row refused", x.status(), SIZE);
        x.roads(0);
        due("roads", x.status(), 0);
        x.calls(0, 0);
        due("calls ended", x.status(), STATE);
        x.begin(1, 0);
        due("begin leaves it", x.status(), STATE);
        x.calls(0, 0);
        due("calls", x.status(), 0);
    }

    private void constants() {
        int[] got = {LadderCalls.BAD, LadderCalls.STATE, LadderCalls.FULL, LadderCalls.NONE, LadderCalls.NULL,
            LadderCalls.INDEX, LadderCalls.CAST, LadderCalls.SIZE};
        int[] want = {BAD, STATE, FULL, NONE, NULL, INDEX, CAST, SIZE};
        for (int i = 0; i < got.length; i++) due("constant " + i, got[i], want[i]);
    }

    private void all() {
        promise = "the face"; constants();
        promise = "promise 1"; promise1NewObject();
        promise = "promise 2"; promise2Place();
        promise = "promise 3"; promise3Road();
        promise = "promise 4"; promise4Apart();
        promise = "promise 5"; promise5Way();
        promise = "promise 6"; promise6Begin();
        promise = "promise 7"; promise7End();
        promise = "promise 8"; promise8Rule();
        promise = "promise 9"; promise9Call();
        promise = "promise 10"; promise10Back();
        promise = "promise 11"; promise11Cruel();
        promise = "promise 12"; promise12Ask();
        promise = "promise 13"; promise13Stand();
        promise = "promise 14"; promise14Told();
        promise = "promise 15"; promise15Cost();
        promise = "promise 16"; promise16Moves();
        promise = "promise 17"; promise17Work();
        promise = "promise 18"; promise18Least();
        promise = "promise 19"; promise19Plan();
        promise = "promise 20"; promise20Ratio();
        promise = "promise 21"; promise21Worst();
        promise = "promise 22"; promise22Book();
        promise = "promise 23"; promise23Row();
        promise = "promise 24"; promise24Put();
        promise = "promise 25"; promise25Item();
        promise = "promise 26"; promise26Roads();
        promise = "promise 27"; promise27Calls();
        promise = "promise 28"; promise28About();
        promise = "promise 29"; promise29Trace();
        promise = "promise 30"; promise30Status();
        check.close();
    }

    public static void main(String[] args) {
        new PromiseTests().all();
    }
}
