import java.util.Arrays;

/** Promises 6 to 15: a day, its CALLS, and what is told of it. */
final class DaySuite extends Suite {
    DaySuite(Check check, Doc doc) {
        super(check, doc);
    }

    @Override
    void all() {
        begin();
        beginForgets();
        beginRefused();
        end();
        rule();
        call();
        callRefused();
        back();
        backRefused();
        cruel();
        cruelRefused();
        ask();
        askRefused();
        stand();
        told();
        toldRefused();
        cost();
        costRefused();
    }

    private void begin() {
        section("Promise 6");
        holds("A day begins: n LADDERS (1 .. 3) at a STAND", "one, two, three", () -> {
            int[] stands = {stand(3), stand(3, 2), stand(3, 2, 1)};
            for (int n = 1; n <= 3; n++) {
                LadderCalls x = line();
                due("begin", x.begin(n, stands[n - 1]), 1);
                due("LADDERS", x.about(2), n);
                due("where they stand", x.stand(), stands[n - 1]);
            }
        });
        holds("A day begins: n LADDERS (1 .. 3) at a STAND", "a single PLACE", () -> {
            due("three at PLACE 0", town(1).begin(3, 0), 1);
        });
        holds("A day begins: n LADDERS (1 .. 3) at a STAND", "by day, and behind it", () -> {
            LadderCalls x = lineDay();
            due("by day", x.begin(1, 2), 1);
            due("LADDERS", x.about(2), 1);
            x.end();
            due("behind it", x.begin(3, 0), 1);
        });
        holds("no CALLS", "a first day, and one behind twelve CALLS", () -> {
            LadderCalls x = fullDay();
            x.begin(2, 0);
            due("CALLS", x.about(3), 0);
            due("the first of them", x.told(0, 0), BAD);
            due("the latest of them", x.back(), STATE);
            due("a CALL", x.call(0), 0);
            due("CALLS of a first day", lineDay().about(3), 0);
        });
    }

    private void beginForgets() {
        holds("what was is forgotten", "sums and THE COST", () -> {
            LadderCalls x = called(lineDay(), 1, 0, 1, 0);
            x.begin(2, stand(0, 3));
            for (int ladder = -1; ladder < 2; ladder++) due("cost " + ladder, x.cost(ladder), 0);
            x.rule(EVEN);
            due("EVEN: 0 + 3 and 0 + 6", x.ask(1), 0);
        });
        holds("what was is forgotten", "TURN", () -> {
            LadderCalls x = called(day(line(), TURN, 3, 0), 1, 2);
            x.begin(3, 0);
            due("the first again", x.call(1), 0);
        });
        holds("what was is forgotten", "WORK and THE BEGINNING", () -> {
            LadderCalls x = called(lineDay(), 1, 2);
            x.begin(2, stand(3, 3));
            due("LEAST of none", x.least(0), 0);
            x.call(1);
            due("LEAST of the same CALL", x.least(1), 6);
            due("WORK of the same CALL", x.work(1, stand(0, 3)), 9);
            due("LEAST of two", x.least(2), BAD);
        });
        holds("what was is forgotten", "other LADDERS, other STANDS", () -> {
            LadderCalls x = chain(6, 1);
            for (int n = 3; n >= 1; n--) {
                x.begin(n, 0);
                x.begin(n, 0);
                due("all " + n + " go to 5", x.work(0, stand(5, 5, 5) % (1 << 3 * n)), 5 * n);
                due("a digit more", x.work(0, 1 << 3 * n), BAD);
            }
        });
        holds("what was is forgotten: 1", "the RULE is no part of the day", () -> {
            LadderCalls x = called(day(line(), TURN, 2, 0), 1);
            due("begin", x.begin(2, 0), 1);
            due("the RULE", x.about(4), TURN);
            due("THE TRACE", x.trace(), 100);
        });
    }

    private void beginRefused() {
        holds("BAD", "LADDERS that are too few or too many", () -> unchanged(DaySuite::second, x -> {
            for (int n : new int[] {0, 4, -1, 8, LOW, HIGH}) due(n + " LADDERS", x.begin(n, 0), BAD);
        }));
        holds("BAD: also a STAND that is none", "a PLACE that is none", () -> unchanged(DaySuite::second, x -> {
            due("of one, 4", x.begin(1, 4), BAD);
            due("of one, 7", x.begin(1, 7), BAD);
            due("of two, LADDER 0", x.begin(2, stand(4, 0)), BAD);
            due("of two, LADDER 1", x.begin(2, stand(0, 4)), BAD);
            due("of three, LADDER 1", x.begin(3, stand(0, 7, 0)), BAD);
            due("of three, LADDER 2", x.begin(3, stand(0, 0, 4)), BAD);
        }));
        holds("BAD: also a STAND that is none", "below 0, or with a digit more", () -> unchanged(DaySuite::second, x -> {
            for (int n = 1; n <= 3; n++) {
                for (int s : new int[] {-1, -8, LOW, HIGH, 512}) due(n + " LADDERS at " + s, x.begin(n, s), BAD);
            }
            due("of one, two digits", x.begin(1, 8), BAD);
            due("of two, three digits", x.begin(2, 64), BAD);
        }));
        holds("BAD: also a STAND that is none", "no PLACE at all", () -> {
            unchanged(LadderCalls::new, x -> due("0", x.begin(1, 0), BAD));
        });
        holds("STATE: PLACES are TORN", "two without a ROAD, a fifth behind a day", () -> {
            unchanged(() -> town(2), x -> due("two", x.begin(1, 0), STATE));
            unchanged(DaySuite::torn, x -> due("a fifth", x.begin(2, 0), STATE));
        });
        holds("BAD ... STATE", "BAD ahead of STATE", () -> {
            LadderCalls x = torn();
            due("no LADDERS", x.begin(0, 0), BAD);
            due("four", x.begin(4, 0), BAD);
            due("no STAND", x.begin(1, 5), BAD);
            due("the lone PLACE is one", x.begin(1, 4), STATE);
        });
    }

    /** A day with CALLS, sums and a TURN that a refused call could spoil. */
    private static LadderCalls second() {
        return called(day(line(), TURN, 2, stand(0, 3)), 1, 2, 0);
    }

    private static LadderCalls torn() {
        LadderCalls x = second();
        x.end();
        x.place();
        return x;
    }

    private void end() {
        section("Promise 7");
        holds("The day is over: no LADDERS, no CALLS", "all that was of them", () -> {
            LadderCalls x = second();
            x.end();
            due("LADDERS", x.about(2), 0);
            due("CALLS", x.about(3), 0);
            due("a CALL", x.told(0, 0), BAD);
            due("where they stand", x.stand(), STATE);
            due("THE COST", x.cost(-1), STATE);
            due("the latest CALL", x.back(), STATE);
            due("WORK", x.work(0, 0), STATE);
        });
        holds("how many CALLS there were", "none, one, twelve", () -> {
            due("none", lineDay().end(), 0);
            due("one", called(lineDay(), 1).end(), 1);
            due("twelve", fullDay().end(), 12);
        });
        holds("how many CALLS there were", "those taken back are none", () -> {
            LadderCalls x = second();
            x.back();
            due("two of three", x.end(), 2);
        });
        holds("The day is over", "PLACES, ROADS, the RULE and THE TRACE stay", () -> {
            LadderCalls x = second();
            x.end();
            due("PLACES", x.about(0), 4);
            due("ROADS", x.about(1), 4);
            due("the RULE", x.about(4), TURN);
            due("THE TRACE", x.trace(), 300);
        });
        holds("STATE: there are no LADDERS", "a new object, and twice", () -> {
            unchanged(LadderCalls::new, x -> due("a new object", x.end(), STATE));
            LadderCalls x = second();
            x.end();
            due("twice", x.end(), STATE);
        });
    }

    private void rule() {
        section("Promise 8");
        holds("The RULE becomes one of a KIND: what it was", "each one behind each", () -> {
            LadderCalls x = new LadderCalls();
            for (int was = 0; was < 4; was++) {
                for (int kind = 0; kind < 4; kind++) {
                    x.rule(was);
                    due(kind + " behind " + was, x.rule(kind), was);
                    due("it is now", x.about(4), kind);
                }
            }
        });
        holds("The RULE becomes one of a KIND", "with LADDERS, and for the CALLS to come", () -> {
            LadderCalls x = called(lineDay(), 1);
            due("what it was", x.rule(TURN), NEAR);
            x.call(2);
            due("the CALL ahead", x.told(0, 3), NEAR);
            due("the CALL behind", x.told(1, 3), TURN);
        });
        holds("BAD", "the next on either side, and far beyond", () -> unchanged(DaySuite::second, x -> {
            for (int kind : new int[] {-1, 4, 8, LOW, HIGH}) due("rule " + kind, x.rule(kind), BAD);
        }));
    }

    private void call() {
        section("Promise 9");
        holds("A CALL, which is SERVED: the LADDER that goes", "the first, the last", () -> {
            LadderCalls x = day(line(), NEAR, 3, stand(0, 1, 3));
            due("LADDER 2", x.call(2), 2);
            due("LADDER 0", x.call(0), 0);
            due("where they stand", x.stand(), stand(0, 1, 2));
            due("CALLS", x.about(3), 2);
        });
        holds("A CALL, which is SERVED: the LADDER that goes", "of the first PLACE, of the last", () -> {
            LadderCalls x = day(chain(6, 1), NEAR, 2, stand(2, 3));
            due("0", x.call(0), 0);
            due("5", x.call(5), 1);
        });
        holds("A CALL, which is SERVED: the LADDER that goes", "by the RULE, whatever its KIND", () -> {
            int[] goers = {0, 1, 0, 1};
            for (int kind = 0; kind < 4; kind++) {
                LadderCalls x = called(seesaw(NEAR), 1, 0, 1, 0, 1, 0);
                x.rule(kind);
                due("by KIND " + kind, x.call(1), goers[kind]);
            }
        });
        holds("A CALL, which is SERVED", "twelve of them", () -> {
            LadderCalls x = lineDay();
            for (int i = 0; i < 12; i++) {
                due("CALL " + i, x.call(i % 2), 0);
                due("how many", x.about(3), i + 1);
            }
        });
    }

    private void callRefused() {
        holds("BAD", "a PLACE that is none", () -> unchanged(DaySuite::second, x -> {
            for (int p : new int[] {-1, 4, 6, 8, LOW, HIGH}) due("call " + p, x.call(p), BAD);
        }));
        holds("STATE: there are no LADDERS", "no day yet, and one that is over", () -> {
            unchanged(Suite::line, x -> due("no day yet", x.call(0), STATE));
            LadderCalls x = second();
            x.end();
            due("over", x.call(0), STATE);
        });
        holds("FULL", "a thirteenth", () -> unchanged(Suite::fullDay, x -> due("a thirteenth", x.call(1), FULL)));
        holds("BAD ... STATE", "BAD ahead of STATE", () -> {
            due("no LADDERS, no such PLACE", line().call(4), BAD);
            due("no PLACE at all", new LadderCalls().call(0), BAD);
        });
        holds("BAD ... FULL", "BAD ahead of FULL", () -> due("a thirteenth of no PLACE", fullDay().call(-1), BAD));
    }

    private void back() {
        section("Promise 10");
        holds("The latest CALL is as if it had not come", "all twelve, one by one", () -> {
            int[] places = {1, 2, 0, 3, 1, 2, 0, 3, 1, 2, 0, 3};
            LadderCalls x = called(lineDay(), places);
            for (int left = 11; left >= 0; left--) {
                LadderCalls fresh = called(lineDay(), Arrays.copyOf(places, left));
                due("how many are left", x.back(), left);
                due("where they stand", x.stand(), fresh.stand());
                due("THE COST", x.cost(-1), fresh.cost(-1));
                due("LEAST", x.least(left), fresh.least(left));
                due("LEAST with one more", x.least(left + 1), BAD);
                due("the CALL is not told", x.told(left, 0), BAD);
            }
        });
        holds("(LADDERS", "they stand where they stood", () -> {
            LadderCalls x = called(lineDay(), 1, 2);
            x.back();
            due("LADDER 1 again", x.stand(), stand(1, 3));
            x.back();
            due("LADDER 0 again", x.stand(), stand(0, 3));
        });
        holds("(LADDERS, sums", "of each LADDER, and of all", () -> {
            LadderCalls x = called(lineDay(), 1, 2, 0);
            x.back();
            due("LADDER 0", x.cost(0), 3);
            due("LADDER 1", x.cost(1), 2);
            due("all", x.cost(-1), 5);
            x.back();
            due("LADDER 1 again", x.cost(1), 0);
        });
        holds("TURN, too", "the same turn comes again", () -> {
            LadderCalls x = day(chain(6, 1), TURN, 3, 0);
            x.call(1);
            x.back();
            due("the first again", x.call(1), 0);
            x.call(2);
            x.back();
            due("the second again", x.call(2), 1);
            due("the third", x.call(3), 2);
        });
        holds("TURN, too", "a CALL between that went up, or by another RULE", () -> {
            LadderCalls x = called(day(chain(6, 1), TURN, 3, stand(0, 0, 4)), 1, 4);
            x.back();
            due("behind the first", x.ask(2), 1);
            x.rule(NEAR);
            x.call(5);
            x.back();
            x.rule(TURN);
            due("still behind the first", x.ask(2), 1);
        });
        holds("the RULE and THE TRACE stay", "a RULE from ahead of the CALL, and from behind it", () -> {
            LadderCalls x = lineDay();
            x.call(1);
            x.rule(AHEAD);
            x.back();
            due("the RULE", x.about(4), AHEAD);
            due("THE TRACE", x.trace(), 1);
        });
        holds("how many are left", "of twelve, of one", () -> {
            due("of twelve", fullDay().back(), 11);
            due("of one", called(lineDay(), 1).back(), 0);
        });
        holds("how many are left", "there is room for another one", () -> {
            LadderCalls x = fullDay();
            x.back();
            due("another one", x.call(2), 1);
            due("a thirteenth", x.call(2), FULL);
        });
        holds("The latest CALL is as if it had not come", "another one comes instead", () -> {
            LadderCalls x = called(lineDay(), 1, 2);
            x.back();
            x.call(0);
            due("its PLACE", x.told(1, 0), 0);
            due("LEAST", x.least(2), 6);
            due("WORK", x.work(2, stand(0, 3)), 6);
            due("who goes in THE PLAN", x.plan(2, 1), 0);
        });
        holds("The latest CALL is as if it had not come", "another one comes instead, and behind it one as there was", () -> {
            LadderCalls x = called(lineDay(), 1, 2, 1);
            due("LEAST of 1 2 1", x.least(3), 5);
            x.back();
            x.back();
            due("LEAST of 1 0 1", called(x, 0, 1).least(3), 6);
        });
    }

    private void backRefused() {
        holds("STATE: there is none", "a day without CALLS", () -> unchanged(Suite::lineDay, x -> due("none", x.back(), STATE)));
        holds("STATE: there is none", "no LADDERS", () -> unchanged(LadderCalls::new, x -> due("none", x.back(), STATE)));
        holds("STATE: there is none", "all were taken back", () -> {
            LadderCalls x = called(lineDay(), 1);
            x.back();
            due("none", x.back(), STATE);
        });
        holds("STATE: there is none", "the day is over, another begins", () -> {
            LadderCalls x = called(lineDay(), 1);
            x.end();
            due("over", x.back(), STATE);
            x.begin(1, 0);
            due("another", x.back(), STATE);
        });
    }

    private void cruel() {
        section("Promise 11");
        holds("A CALL of the first PLACE at which no LADDER stands: the PLACE", "the first, one between, the last", () -> {
            due("0", day(line(), NEAR, 2, stand(1, 2)).cruel(), 0);
            due("1", day(line(), NEAR, 2, stand(2, 0)).cruel(), 1);
            due("3", day(line(), NEAR, 3, stand(2, 0, 1)).cruel(), 3);
        });
        holds("A CALL of the first PLACE at which no LADDER stands: the PLACE", "all at one PLACE", () -> {
            due("not at 0", day(line(), NEAR, 3, 0).cruel(), 1);
            due("not at 3", day(line(), NEAR, 3, stand(3, 3, 3)).cruel(), 0);
        });
        holds("A CALL", "it is SERVED by the RULE", () -> {
            LadderCalls x = lineDay();
            due("the PLACE", x.cruel(), 1);
            due("its PLACE", x.told(0, 0), 1);
            due("who went", x.told(0, 1), 0);
            due("how far", x.told(0, 2), 3);
            due("where they stand", x.stand(), stand(1, 3));
            due("THE TRACE", x.trace(), 1);
            due("CALLS", x.about(3), 1);
        });
        holds("A CALL", "the twelfth", () -> {
            LadderCalls x = fullDay();
            x.back();
            due("the PLACE", x.cruel(), 0);
            due("CALLS", x.about(3), 12);
        });
    }

    private void cruelRefused() {
        holds("STATE: there are no LADDERS", "no day, no PLACE", () -> {
            unchanged(Suite::line, x -> due("no day", x.cruel(), STATE));
            unchanged(LadderCalls::new, x -> due("no PLACE", x.cruel(), STATE));
        });
        holds("no such PLACE", "one PLACE, two with two, three with three", () -> {
            unchanged(() -> day(town(1), NEAR, 1, 0), x -> due("one", x.cruel(), STATE));
            unchanged(() -> day(chain(2, 1), NEAR, 2, stand(1, 0)), x -> due("two", x.cruel(), STATE));
            unchanged(() -> day(chain(3, 1), NEAR, 3, stand(1, 0, 2)), x -> due("three", x.cruel(), STATE));
        });
        holds("no such PLACE", "as many LADDERS, but two at one PLACE", () -> {
            due("the one without", day(chain(3, 1), NEAR, 3, stand(0, 2, 0)).cruel(), 1);
        });
        holds("FULL", "a thirteenth", () -> unchanged(Suite::fullDay, x -> due("a thirteenth", x.cruel(), FULL)));
        holds("no such PLACE; FULL", "STATE ahead of FULL", () -> {
            LadderCalls x = day(town(1), NEAR, 1, 0);
            due("a thirteenth of none", called(x, 0, 0, 0, 0, 0, 0, 0, 0, 0, 0, 0, 0).cruel(), STATE);
        });
    }

    private void ask() {
        section("Promise 12");
        holds("Which LADDER would go to a CALL now", "by each KIND, as the CALL then goes", () -> {
            int[] goers = {0, 1, 0, 1};
            for (int kind = 0; kind < 4; kind++) {
                LadderCalls x = called(seesaw(NEAR), 1, 0, 1, 0, 1, 0);
                x.rule(kind);
                due("by KIND " + kind, x.ask(1), goers[kind]);
                due("the CALL by KIND " + kind, x.call(1), goers[kind]);
            }
        });
        holds("Which LADDER would go to a CALL now", "nothing but THE TRACE changes", () -> {
            LadderCalls x = second();
            x.rule(NEAR);
            due("who would go", x.ask(3), 1);
            due("where they stand", x.stand(), stand(0, 2));
            due("CALLS", x.about(3), 3);
            due("THE COST", x.cost(-1), 8);
            due("LEAST of one more", x.least(4), BAD);
            due("THE TRACE", x.trace(), 301);
        });
        holds("Which LADDER would go to a CALL now", "a turn that was asked for is not taken", () -> {
            LadderCalls x = day(line(), TURN, 2, 0);
            x.ask(1);
            due("again", x.ask(1), 0);
            due("the CALL", x.call(1), 0);
        });
        holds("Which LADDER would go to a CALL now", "another CALL than the one that was asked for", () -> {
            LadderCalls x = seesaw(AHEAD);
            x.ask(1);
            x.call(0);
            due("LEAST", x.least(1), 0);
            due("WORK", x.work(1, stand(1, 2)), 1);
        });
        holds("Which LADDER would go to a CALL now", "behind twelve CALLS", () -> {
            LadderCalls x = fullDay();
            due("to 1", x.ask(1), 0);
            due("to 2", x.ask(2), 1);
            due("CALLS", x.about(3), 12);
        });
        holds("Which LADDER would go to a CALL now", "ahead of the first CALL", () -> due("to 2", lineDay().ask(2), 1));
    }

    private void askRefused() {
        holds("BAD", "a PLACE that is none", () -> unchanged(DaySuite::second, x -> {
            for (int p : new int[] {-1, 4, 6, 8, LOW, HIGH}) due("ask " + p, x.ask(p), BAD);
        }));
        holds("STATE: there are no LADDERS", "no day yet, and one that is over", () -> {
            unchanged(Suite::line, x -> due("no day yet", x.ask(0), STATE));
            LadderCalls x = second();
            x.end();
            due("over", x.ask(0), STATE);
        });
        holds("BAD ... STATE", "BAD ahead of STATE", () -> {
            due("no LADDERS, no such PLACE", line().ask(4), BAD);
            due("no PLACE at all", new LadderCalls().ask(0), BAD);
        });
    }

    private void stand() {
        section("Promise 13");
        holds("The STAND as it is", "the smallest, the largest", () -> {
            due("one at 0", day(town(1), NEAR, 1, 0).stand(), 0);
            due("three at 5", day(chain(6, 1), NEAR, 3, 365).stand(), 365);
        });
        holds("The STAND as it is", "each LADDER's own digit, as it goes and comes back", () -> {
            LadderCalls x = day(line(), NEAR, 3, stand(0, 1, 3));
            x.call(2);
            due("LADDER 2 went", x.stand(), 0 + 8 * 1 + 64 * 2);
            x.back();
            due("and came back", x.stand(), 0 + 8 * 1 + 64 * 3);
        });
        holds("STATE", "no day yet, and one that is over", () -> {
            unchanged(LadderCalls::new, x -> due("no day yet", x.stand(), STATE));
            LadderCalls x = lineDay();
            x.end();
            due("over", x.stand(), STATE);
        });
    }

    private void told() {
        section("Promise 14");
        holds("Of CALL i: 0 its PLACE, 1 the LADDER that went, 2 how far", "the first and the latest of three", () -> {
            LadderCalls x = called(lineDay(), 2, 1, 1);
            int[][] want = {{2, 1, 2}, {1, 0, 3}, {1, 0, 0}};
            for (int i = 0; i < 3; i++) {
                for (int what = 0; what < 3; what++) due(what + " of CALL " + i, x.told(i, what), want[i][what]);
            }
        });
        holds("3 the KIND of the RULE that sent it", "though the RULE is another one now", () -> {
            LadderCalls x = lineDay();
            for (int kind = 0; kind < 4; kind++) {
                x.rule(kind);
                x.call(kind);
            }
            x.rule(NEAR);
            for (int i = 0; i < 4; i++) due("of CALL " + i, x.told(i, 3), i);
        });
        holds("3 the KIND of the RULE that sent it", "though it went up", () -> {
            for (int kind = 0; kind < 4; kind++) {
                LadderCalls x = day(line(), kind, 1, 0);
                x.call(0);
                x.call(1);
                due("up to NEAR", x.told(0, 3), kind);
                due("up to EVEN, or not", x.told(1, 3), kind);
            }
        });
        holds("Of CALL i", "the twelfth, and the longest way", () -> {
            LadderCalls x = called(day(chain(6, 100), NEAR, 1, 0), 5, 0, 5, 0, 5, 0, 5, 0, 5, 0, 5, 0);
            due("its PLACE", x.told(11, 0), 0);
            due("the LADDER", x.told(11, 1), 0);
            due("how far", x.told(11, 2), 500);
            due("a thirteenth", x.told(12, 0), BAD);
        });
    }

    private void toldRefused() {
        holds("BAD", "a CALL that is none", () -> unchanged(DaySuite::second, x -> {
            for (int i : new int[] {-1, 3, 11, 12, LOW, HIGH}) {
                for (int what = 0; what < 4; what++) due(what + " of CALL " + i, x.told(i, what), BAD);
            }
        }));
        holds("BAD", "what is not told", () -> unchanged(DaySuite::second, x -> {
            for (int what : new int[] {-1, 4, LOW, HIGH}) due("what " + what, x.told(0, what), BAD);
        }));
        holds("BAD", "no CALL, no LADDERS, no more CALLS", () -> {
            due("no CALL", lineDay().told(0, 0), BAD);
            due("no LADDERS", new LadderCalls().told(0, 0), BAD);
            LadderCalls x = second();
            x.back();
            due("taken back", x.told(2, 0), BAD);
            x.end();
            due("the day is over", x.told(0, 0), BAD);
        });
    }

    private void cost() {
        section("Promise 15");
        holds("THE COST (ladder = -1)", "no CALL, and all three LADDERS", () -> {
            LadderCalls x = day(line(), TURN, 3, stand(0, 1, 3));
            due("no CALL", x.cost(-1), 0);
            due("0 to 2, 1 to 0, 3 to 1", called(x, 2, 0, 1).cost(-1), 7 + 3 + 6);
        });
        holds("or the sum of a LADDER's ways", "of each, the first and the last of three", () -> {
            LadderCalls x = day(line(), TURN, 3, stand(0, 1, 3));
            called(x, 2, 0, 1);
            due("LADDER 0", x.cost(0), 7);
            due("LADDER 1", x.cost(1), 3);
            due("LADDER 2", x.cost(2), 6);
        });
        holds("the sum of a LADDER's ways", "none, more than one", () -> {
            LadderCalls x = called(lineDay(), 1, 0, 1);
            due("three ways of 3", x.cost(0), 9);
            due("none", x.cost(1), 0);
        });
    }

    private void costRefused() {
        holds("BAD", "the next below -1, and far below", () -> unchanged(DaySuite::second, x -> {
            due("-2", x.cost(-2), BAD);
            due("the lowest int", x.cost(LOW), BAD);
        }));
        holds("BAD", "a LADDER that there is not", () -> {
            unchanged(DaySuite::second, x -> {
                for (int ladder : new int[] {2, 3, 8, HIGH}) due("of two, " + ladder, x.cost(ladder), BAD);
            });
            due("of one, 1", day(line(), NEAR, 1, 0).cost(1), BAD);
            due("of three, 3", day(line(), NEAR, 3, 0).cost(3), BAD);
        });
        holds("STATE: there are no LADDERS", "no day yet, and one that is over", () -> {
            unchanged(LadderCalls::new, x -> due("no day yet", x.cost(-1), STATE));
            LadderCalls x = second();
            x.end();
            due("over", x.cost(-1), STATE);
        });
        holds("STATE: there are no LADDERS (ahead of whether there is such one)", "any number", () -> {
            LadderCalls x = line();
            for (int ladder : new int[] {0, 1, 2, 3, -2, LOW, HIGH}) due("cost " + ladder, x.cost(ladder), STATE);
        });
    }
}
