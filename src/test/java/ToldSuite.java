/** Promises 28 to 30: what is told of the whole. */
final class ToldSuite extends Suite {
    ToldSuite(Check check, Doc doc) {
        super(check, doc);
    }

    @Override
    void all() {
        about();
        aboutRefused();
        trace();
        traceOfBodies();
        statusOfBooks();
        statusOfRoadsAndCalls();
        statusStays();
    }

    private void about() {
        section("Promise 28");
        holds("0 PLACES, 1 ROADS, 2 LADDERS, 3 CALLS, 4 the KIND of the RULE", "nothing at all", () -> {
            LadderCalls x = new LadderCalls();
            for (int what = 0; what < 5; what++) due("about " + what, x.about(what), 0);
        });
        holds("0 PLACES, 1 ROADS, 2 LADDERS, 3 CALLS, 4 the KIND of the RULE", "all full", () -> {
            LadderCalls x = chain(6, 1);
            for (int i = 0; i < 12; i++) x.road(0, 5, 100);
            called(day(x, AHEAD, 3, 365), 0, 1, 2, 3, 4, 5, 0, 1, 2, 3, 4, 5, 0);
            int[] want = {6, 15, 3, 12, AHEAD};
            for (int what = 0; what < 5; what++) due("about " + what, x.about(what), want[what]);
        });
        holds("0 PLACES, 1 ROADS, 2 LADDERS, 3 CALLS, 4 the KIND of the RULE", "some of each", () -> {
            LadderCalls x = called(day(line(), EVEN, 2, 0), 1, 2, 3);
            int[] want = {4, 4, 2, 3, EVEN};
            for (int what = 0; what < 5; what++) due("about " + what, x.about(what), want[what]);
        });
        holds("5 whether PLACES are TORN", "none, one, two, joined", () -> {
            LadderCalls x = new LadderCalls();
            due("none", x.about(5), 0);
            x.place();
            due("one", x.about(5), 0);
            x.place();
            due("two", x.about(5), 1);
            x.road(0, 1, 100);
            due("joined", x.about(5), 0);
        });
    }

    private void aboutRefused() {
        holds("BAD", "the next on either side, and far beyond", () -> {
            for (int what : new int[] {-1, 6, 7, LOW, HIGH}) due("about " + what, lineDay().about(what), BAD);
        });
    }

    private void trace() {
        section("Promise 29");
        holds("THE TRACE", "nothing asked yet", () -> due("a new object", new LadderCalls().trace(), 0));
        holds("THE TRACE", "calls that ask no RULE", () -> {
            LadderCalls x = called(lineDay(), 1, 2);
            x.stand();
            x.told(0, 0);
            x.cost(-1);
            x.moves(0, 0);
            x.work(2, 0);
            x.least(2);
            x.plan(2, 0);
            x.ratio();
            x.rule(TURN);
            x.back();
            x.end();
            x.place();
            due("two of NEAR", x.trace(), 2);
        });
        holds("THE TRACE", "calls that are refused", () -> {
            LadderCalls x = fullDay();
            x.call(1);
            x.call(4);
            x.cruel();
            x.ask(4);
            x.worst(4, 0);
            x.worst(1, 3);
            x.end();
            x.call(0);
            x.ask(0);
            x.cruel();
            x.worst(1, 0);
            due("twelve of NEAR", x.trace(), 12);
        });
        holds("THE TRACE", "it goes on from day to day", () -> {
            LadderCalls x = called(lineDay(), 1, 2);
            x.end();
            x.begin(1, 0);
            x.call(0);
            due("three of NEAR", x.trace(), 3);
        });
    }

    private void traceOfBodies() {
        holds("THE TRACE", "CALLS of call(), cruel(), calls(), and those asked for", () -> {
            int[] own = {1, 10, 100, 1000};
            for (int kind = 0; kind < 4; kind++) {
                LadderCalls x = shelved(day(chain(6, 1), kind, 2, 0), numbers(1, 2));
                x.call(5);
                due("call() by " + kind, x.trace(), own[kind]);
                x.cruel();
                due("cruel() by " + kind, x.trace(), 2 * own[kind]);
                x.ask(3);
                due("ask() by " + kind, x.trace(), 3 * own[kind]);
            }
            LadderCalls x = shelved(day(chain(6, 1), EVEN, 2, 0), numbers(5, 0, 6, 1));
            x.calls(0, 0);
            due("calls() by EVEN, up once, ended", x.trace(), 10 + 11);
        });
        holds("THE TRACE", "a CALL taken back and come again counts twice", () -> {
            LadderCalls x = called(lineDay(), 1);
            x.back();
            x.call(1);
            due("twice NEAR", x.trace(), 2);
        });
    }

    private void statusOfBooks() {
        section("Promise 30");
        String sentence = "What the latest book(), row(), put(), item(), roads(), calls() was refused by, or ended at";
        holds(sentence, "book()", () -> {
            LadderCalls x = new LadderCalls();
            x.book(0, LONGS, 5);
            due("BAD", x.status(), BAD);
            x.book(0, LONGS, -1);
            due("SIZE", x.status(), SIZE);
            x.book(0, LONGS, 4);
            due("0", x.status(), 0);
        });
        holds(sentence, "row()", () -> {
            LadderCalls x = shelved(new LadderCalls(), (long[]) null);
            x.row(1, 0, 1);
            due("NULL", x.status(), NULL);
            x.row(0, 1, 1);
            due("INDEX", x.status(), INDEX);
            x.row(0, 0, -1);
            due("SIZE", x.status(), SIZE);
            x.row(0, 0, 9);
            due("BAD", x.status(), BAD);
            x.row(0, 0, 8);
            due("0", x.status(), 0);
        });
        holds(sentence, "put() and item()", () -> {
            LadderCalls x = shelved(new LadderCalls(), numbers(7), null);
            x.put(0, INTS, 0, 0, 5);
            due("put(), CAST", x.status(), CAST);
            x.item(0, LONGS, 1, 0);
            due("item(), NULL", x.status(), NULL);
            x.put(0, LONGS, 0, 1, 5);
            due("put(), INDEX", x.status(), INDEX);
            x.item(3, LONGS, 0, 0);
            due("item(), BAD", x.status(), BAD);
            x.put(0, LONGS, 0, 0, 5);
            due("put(), 0", x.status(), 0);
            x.item(0, INTS, 0, 0);
            due("item(), CAST", x.status(), CAST);
            x.item(0, LONGS, 0, 0);
            due("item(), 0", x.status(), 0);
        });
    }

    private void statusOfRoadsAndCalls() {
        holds("roads()", "each end, and none", () -> {
            LadderCalls x = shelved(town(2), numbers(0, 1, 5), numbers(0, 1));
            x.roads(0);
            due("INDEX", x.status(), INDEX);
            x.roads(1);
            due("NULL", x.status(), NULL);
            x.roads(3);
            due("BAD", x.status(), BAD);
            fill(x, 1, 0, 1, 6);
            x.roads(0);
            due("0", x.status(), 0);
            x.begin(1, 0);
            x.roads(0);
            due("STATE", x.status(), STATE);
        });
        holds("calls()", "each end, and none", () -> {
            LadderCalls x = shelved(line(), numbers(0, 1, 2, 3, 0, 1, 2, 3), numbers(4));
            x.calls(0, 0);
            due("STATE", x.status(), STATE);
            x.begin(1, 0);
            x.calls(0, 0);
            due("0", x.status(), 0);
            x.calls(0, 0);
            due("FULL", x.status(), FULL);
            x.calls(0, 1);
            due("BAD", x.status(), BAD);
            x.calls(0, 2);
            due("INDEX", x.status(), INDEX);
            x.calls(1, 0);
            due("NULL", x.status(), NULL);
        });
        holds("; 0", "none of them yet", () -> {
            due("a new object", new LadderCalls().status(), 0);
            LadderCalls x = line();
            x.call(9);
            x.begin(1, 9);
            due("others that are refused", x.status(), 0);
        });
    }

    private void statusStays() {
        holds("What the latest book(), row(), put(), item(), roads(), calls() was refused by", "all others leave it", () -> {
            LadderCalls x = new LadderCalls();
            x.book(3, LONGS, 1);
            x.place();
            x.place();
            x.road(0, 1, 5);
            x.road(0, 1, 0);
            x.apart(0, 1);
            x.way(0, 1);
            x.rule(TURN);
            x.begin(1, 9);
            x.begin(2, 0);
            x.call(1);
            x.call(2);
            x.cruel();
            x.back();
            x.ask(1);
            x.stand();
            x.told(0, 0);
            x.cost(-1);
            due("by day", x.status(), BAD);
            x.moves(0, 0);
            x.work(1, 0);
            x.least(1);
            x.plan(1, 0);
            x.ratio();
            x.worst(1, 0);
            x.about(0);
            x.trace();
            x.end();
            x.end();
            due("the day is over", x.status(), BAD);
            due("once more", x.status(), BAD);
        });
    }
}
