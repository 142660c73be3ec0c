import java.util.Arrays;

/** Promises 16 to 21: what would be least, and the row of CALLS that makes the RULE pay most. */
final class LeastSuite extends Suite {
    LeastSuite(Check check, Doc doc) {
        super(check, doc);
    }

    @Override
    void all() {
        moves();
        movesRefused();
        work();
        workRefused();
        least();
        leastRefused();
        plan();
        planRefused();
        ratio();
        worst();
        worstRows();
        worstTells();
        worstTrace();
        worstRefused();
    }

    /** One with LADDERS, but over: all that the day told is gone. */
    private static LadderCalls over() {
        LadderCalls x = called(lineDay(), 1, 2);
        x.end();
        return x;
    }

    private static LadderCalls three() {
        return called(lineDay(), 1, 2, 1);
    }

    // ---- moves, work, least

    private void moves() {
        section("Promise 16");
        holds("Cost of moving one STAND to another one", "of one, two, three LADDERS", () -> {
            LadderCalls x = line();
            x.begin(1, 0);
            due("one", x.moves(0, 3), 9);
            x.begin(2, 0);
            due("two, crossed", x.moves(stand(0, 3), stand(2, 1)), 5);
            x.begin(3, 0);
            due("three", x.moves(stand(0, 1, 3), stand(2, 2, 2)), 13);
        });
        holds("Cost of moving one STAND to another one", "none: to itself, to one that is LIKE it", () -> {
            due("to itself", lineDay().moves(stand(0, 3), stand(0, 3)), 0);
            due("LIKE it", lineDay().moves(stand(0, 3), stand(3, 0)), 0);
        });
        holds("Cost of moving one STAND to another one", "the largest", () -> {
            due("three ways of 500", day(chain(6, 100), NEAR, 3, 0).moves(365, 0), 1500);
        });
        holds("Cost of moving one STAND to another one", "wherever the LADDERS are now", () -> {
            due("behind two CALLS", called(lineDay(), 1, 2).moves(stand(0, 3), stand(1, 2)), 5);
        });
    }

    private void movesRefused() {
        holds("BAD: also what is no STAND", "on either side", () -> unchanged(LeastSuite::three, x -> {
            for (int s : new int[] {-1, 4, 7, 32, 36, 64, 512, LOW, HIGH}) {
                due("from " + s, x.moves(s, 0), BAD);
                due("to " + s, x.moves(0, s), BAD);
                due(s + " to itself", x.moves(s, s), BAD);
            }
        }));
        holds("BAD: also what is no STAND", "a digit more than there are LADDERS", () -> {
            LadderCalls x = line();
            x.begin(1, 0);
            due("one", x.moves(0, 8), BAD);
            x.begin(3, 0);
            due("three", x.moves(512, 0), BAD);
            due("three, a third digit", x.moves(64, 0), 3);
        });
        holds("STATE: there are no LADDERS (ahead)", "with STANDS, and with none", () -> {
            unchanged(Suite::line, x -> due("no day yet", x.moves(0, 0), STATE));
            due("no STAND", line().moves(-1, 0), STATE);
            due("no STAND, on the other side", line().moves(0, HIGH), STATE);
            due("over", over().moves(0, 0), STATE);
        });
    }

    private void work() {
        section("Promise 17");
        holds("WORK of a STAND for the first n CALLS", "none of three, one, all", () -> {
            LadderCalls x = three();
            due("none", x.work(0, stand(0, 3)), 0);
            due("one", x.work(1, stand(0, 3)), 6);
            due("all", x.work(3, stand(0, 3)), 10);
        });
        holds("WORK of a STAND for the first n CALLS", "a day without CALLS", () -> {
            due("THE BEGINNING", lineDay().work(0, stand(0, 3)), 0);
            due("another one", lineDay().work(0, stand(1, 2)), 5);
        });
        holds("WORK of a STAND for the first n CALLS", "twelve, three LADDERS", () -> {
            LadderCalls x = day(chain(6, 1), NEAR, 3, 0);
            called(x, 5, 3, 0, 5, 3, 0, 5, 3, 0, 5, 3, 0);
            due("where they are called for", x.work(12, stand(0, 3, 5)), 8);
            due("all at the last PLACE", x.work(12, stand(5, 5, 5)), 15);
        });
        holds("WORK of a STAND for the first n CALLS", "all STANDS of three LADDERS at six PLACES", () -> {
            LadderCalls x = called(day(chain(6, 1), NEAR, 3, stand(0, 2, 5)), 0, 2, 5);
            for (int s = 0; s < 512; s++) {
                int[] places = {s & 7, s >> 3 & 7, s >> 6};
                Arrays.sort(places);
                if (places[2] > 5) continue;
                // in a row of PLACES the LADDERS keep their order
                due("stand " + s, x.work(3, s), places[0] + Math.abs(places[1] - 2) + 5 - places[2]);
            }
        });
        holds("WORK of a STAND for the first n CALLS", "one LADDER", () -> {
            due("0 1 0 3, and back to 0", called(day(line(), NEAR, 1, 0), 1, 0, 3).work(3, 0), 3 + 3 + 9 + 9);
        });
    }

    private void workRefused() {
        holds("BAD", "numbers of CALLS beyond those there are", () -> unchanged(LeastSuite::three, x -> {
            for (int n : new int[] {-1, 4, 12, 13, LOW, HIGH}) due("n = " + n, x.work(n, 0), BAD);
        }));
        holds("BAD", "more than twelve CALLS, more than none", () -> {
            due("thirteen", fullDay().work(13, 0), BAD);
            due("one of none", lineDay().work(1, 0), BAD);
        });
        holds("BAD", "no STAND", () -> unchanged(LeastSuite::three, x -> {
            for (int s : new int[] {-1, 4, 7, 32, 64, 512, LOW, HIGH}) due("stand " + s, x.work(3, s), BAD);
        }));
        holds("BAD", "a CALL that was asked for, or taken back", () -> {
            LadderCalls x = three();
            x.ask(0);
            due("asked for", x.work(4, 0), BAD);
            x.back();
            due("taken back", x.work(3, 0), BAD);
        });
        holds("STATE (ahead)", "with numbers as told, and not", () -> {
            unchanged(Suite::line, x -> due("no day yet", x.work(0, 0), STATE));
            due("n that is none", line().work(-1, 0), STATE);
            due("no STAND", line().work(0, 4), STATE);
            due("over", over().work(3, 0), STATE);
        });
    }

    private void least() {
        section("Promise 18");
        holds("LEAST of n", "none to all", () -> {
            LadderCalls x = called(seesaw(NEAR), 1, 0, 1, 0, 1, 0, 1, 0, 1, 0, 1, 0);
            int[] least = {0, 1, 2, 3, 3, 3, 3, 3, 3, 3, 3, 3, 3};
            for (int n = 0; n <= 12; n++) due("of " + n, x.least(n), least[n]);
        });
        holds("LEAST of n", "a day without CALLS", () -> due("of none", lineDay().least(0), 0));
        holds("LEAST of n", "the largest", () -> {
            LadderCalls x = day(chain(6, 100), NEAR, 1, 0);
            due("of twelve", called(x, 5, 0, 5, 0, 5, 0, 5, 0, 5, 0, 5, 0).least(12), 6000);
        });
        holds("LEAST of n", "other CALLS instead of those taken back", () -> {
            LadderCalls x = three();
            due("1 2 1", x.least(3), 5);
            x.back();
            x.call(3);
            due("1 2 3", x.least(3), 7);
            x.back();
            x.back();
            due("1", x.least(1), 3);
        });
    }

    private void leastRefused() {
        holds("BAD", "numbers of CALLS beyond those there are", () -> unchanged(LeastSuite::three, x -> {
            for (int n : new int[] {-1, 4, 12, 13, LOW, HIGH}) due("n = " + n, x.least(n), BAD);
        }));
        holds("BAD", "more than twelve CALLS, more than none", () -> {
            due("thirteen", fullDay().least(13), BAD);
            due("one of none", lineDay().least(1), BAD);
        });
        holds("STATE (ahead)", "with a number as told, and not", () -> {
            unchanged(Suite::line, x -> due("no day yet", x.least(0), STATE));
            due("n that is none", line().least(-1), STATE);
            due("over", over().least(3), STATE);
        });
    }

    // ---- plan, ratio

    private void plan() {
        section("Promise 19");
        holds("Which LADDER goes to CALL i in THE PLAN of n", "one CALL of one, of three", () -> {
            LadderCalls x = called(day(line(), NEAR, 2, stand(3, 0)), 1, 2, 1);
            due("of one", x.plan(1, 0), 1);
            due("of three, the first", x.plan(3, 0), 1);
            due("of three, the second", x.plan(3, 1), 0);
            due("of three, the third", x.plan(3, 2), 1);
        });
        holds("Which LADDER goes to CALL i in THE PLAN of n", "another one by more CALLS", () -> {
            LadderCalls x = called(seesaw(NEAR), 1, 0, 1, 0);
            due("of three", x.plan(3, 0), 0);
            due("of four", x.plan(4, 0), 1);
        });
        holds("Which LADDER goes to CALL i in THE PLAN of n", "each of twelve, three LADDERS", () -> {
            LadderCalls x = day(chain(6, 1), NEAR, 3, stand(5, 3, 0));
            called(x, 5, 3, 0, 5, 3, 0, 5, 3, 0, 5, 3, 0);
            for (int i = 0; i < 12; i++) due("CALL " + i, x.plan(12, i), i % 3);
        });
        holds("Which LADDER goes to CALL i in THE PLAN of n", "whatever the RULE did", () -> {
            LadderCalls x = called(day(line(), TURN, 2, stand(0, 3)), 2);
            due("the RULE", x.told(0, 1), 0);
            due("THE PLAN", x.plan(1, 0), 1);
        });
    }

    private void planRefused() {
        holds("BAD", "CALLS that are none of the n", () -> unchanged(LeastSuite::three, x -> {
            for (int i : new int[] {-1, 3, 12, LOW, HIGH}) due("CALL " + i + " of three", x.plan(3, i), BAD);
            due("CALL 2 of two", x.plan(2, 2), BAD);
            due("CALL 0 of none", x.plan(0, 0), BAD);
        }));
        holds("BAD", "numbers of CALLS beyond those there are", () -> unchanged(LeastSuite::three, x -> {
            for (int n : new int[] {-1, 4, 12, 13, LOW, HIGH}) due("n = " + n, x.plan(n, 0), BAD);
            due("below 0, and CALL -2", x.plan(-1, -2), BAD);
        }));
        holds("BAD", "more than twelve CALLS, more than none", () -> {
            due("thirteen", fullDay().plan(13, 0), BAD);
            due("one of none", lineDay().plan(1, 0), BAD);
        });
        holds("STATE (ahead)", "with numbers as told, and not", () -> {
            unchanged(Suite::line, x -> due("no day yet", x.plan(1, 0), STATE));
            due("n that is none", line().plan(-1, 0), STATE);
            due("over", over().plan(2, 0), STATE);
        });
    }

    private void ratio() {
        section("Promise 20");
        holds("1000 times THE COST by LEAST of all CALLS", "as much, twice, the largest cost", () -> {
            due("as much", called(lineDay(), 1).ratio(), 1000);
            due("6 by 3", called(seesaw(NEAR), 1, 0, 1, 0, 1, 0).ratio(), 2000);
            LadderCalls x = day(chain(6, 100), NEAR, 1, 0);
            due("6000 by 6000", called(x, 5, 0, 5, 0, 5, 0, 5, 0, 5, 0, 5, 0).ratio(), 1000);
        });
        holds("1000 times THE COST by LEAST of all CALLS", "of all, not of some", () -> {
            LadderCalls x = called(seesaw(NEAR), 1, 0, 1, 0, 1, 0);
            x.back();
            x.back();
            due("4 by 3", x.ratio(), 1333);
        });
        holds("cut off", "a third, two thirds", () -> {
            due("4 by 3", called(seesaw(NEAR), 1, 0, 1, 0).ratio(), 1333);
            due("5 by 3", called(seesaw(NEAR), 1, 0, 1, 0, 1).ratio(), 1666);
        });
        holds("NONE: LEAST is 0", "no CALL, and none that costs", () -> {
            unchanged(Suite::lineDay, x -> due("no CALL", x.ratio(), NONE));
            due("all where LADDERS stand", called(lineDay(), 0, 3, 0).ratio(), NONE);
        });
        holds("STATE", "no day yet, and one that is over", () -> {
            unchanged(Suite::line, x -> due("no day yet", x.ratio(), STATE));
            due("over", over().ratio(), STATE);
        });
    }

    // ---- worst

    private void worst() {
        section("Promise 21");
        holds("Of all rows of n CALLS (1 .. 3)", "the shortest, and the next below", () -> {
            LadderCalls x = day(line(), TURN, 2, stand(0, 3));
            due("one", x.worst(1, 0), 2);
            due("none", x.worst(0, 0), BAD);
        });
        holds("Of all rows of n CALLS (1 .. 3)", "the longest, and the next above", () -> {
            LadderCalls x = day(chain(3, 1), TURN, 2, 0);
            due("three", x.worst(3, 0), 64 * 1 + 8 * 2 + 0);
            due("four", x.worst(4, 0), BAD);
        });
        holds("Of all rows of n CALLS", "all PLACES, the last one, too", () -> {
            LadderCalls x = day(chain(6, 1), TURN, 2, stand(0, 4));
            due("5, 5 from LADDER 0, 1 from LADDER 1", x.worst(1, 0), 5);
            due("the RULE's cost", x.worst(1, 1), 5);
            due("LEAST", x.worst(1, 2), 1);
        });
        holds("Of all rows of n CALLS", "a single PLACE: one row", () -> {
            LadderCalls x = day(town(1), TURN, 3, 0);
            for (int n = 1; n <= 3; n++) {
                for (int what = 0; what < 3; what++) due(what + " of " + n, x.worst(n, what), 0);
            }
        });
        holds("from THE BEGINNING, as if no others had come", "LADDERS, sums, TURN", () -> {
            for (int kind = 0; kind < 4; kind++) {
                LadderCalls fresh = day(chain(4, 1), kind, 2, stand(0, 2));
                LadderCalls x = called(day(chain(4, 1), TURN, 2, stand(0, 2)), 3, 1, 0);
                x.rule(kind);
                for (int n = 1; n <= 3; n++) {
                    for (int what = 0; what < 3; what++) due(what + " of " + n + " by " + kind, x.worst(n, what), fresh.worst(n, what));
                }
            }
        });
        holds("from THE BEGINNING, as if no others had come", "the twelve there are stay", () -> {
            LadderCalls x = called(seesaw(NEAR), 1, 0, 1, 0, 1, 0, 1, 0, 1, 0, 1, 0);
            x.worst(3, 0);
            due("CALLS", x.about(3), 12);
            due("THE COST", x.cost(-1), 12);
            due("where they stand", x.stand(), stand(0, 2));
            due("LEAST", x.least(12), 3);
            due("WORK", x.work(12, stand(0, 2)), 6);
            due("the latest", x.told(11, 0), 0);
            due("how many are left", x.back(), 11);
        });
    }

    private void worstRows() {
        holds("that with which the RULE's cost less LEAST is greatest", "neither the dearest nor three times LEAST", () -> {
            LadderCalls x = day(town(5, 0, 1, 4, 0, 2, 3, 1, 2, 1, 1, 3, 6, 1, 4, 18, 0, 4, 20), TURN, 2, stand(0, 1));
            due("10 less 6, not 3 less 1, not 20 less 18", x.worst(1, 0), 3);
            due("the RULE's cost", x.worst(1, 1), 10);
            due("LEAST", x.worst(1, 2), 6);
        });
        holds("of several the first by its PLACES from the first on", "all cost LEAST", () -> {
            LadderCalls x = day(line(), NEAR, 1, 3);
            for (int n = 1; n <= 3; n++) {
                due("the row of " + n, x.worst(n, 0), 0);
                due("the RULE's cost of " + n, x.worst(n, 1), 9);
                due("LEAST of " + n, x.worst(n, 2), 9);
            }
        });
        holds("of several the first by its PLACES from the first on", "the first CALL ahead of the second", () -> {
            LadderCalls x = day(town(5, 0, 1, 1, 1, 4, 1, 0, 3, 1, 3, 2, 1), TURN, 2, 0);
            due("1 4, not 3 2, of 3 less 2 both", x.worst(2, 0), 8 * 1 + 4);
        });
    }

    private void worstTells() {
        holds("what = 0 it as a number (the first PLACE 64 times, the second 8 times, the third)", "three other PLACES", () -> {
            LadderCalls x = day(chain(3, 1), TURN, 2, 0);
            due("1 2 0", x.worst(3, 0), 64 * 1 + 8 * 2 + 0);
        });
        holds("1 the RULE's cost", "of one, two, three", () -> {
            LadderCalls x = day(chain(3, 1), TURN, 2, 0);
            due("0", x.worst(1, 1), 0);
            due("1 2", x.worst(2, 1), 3);
            due("1 2 0", x.worst(3, 1), 4);
        });
        holds("2 LEAST", "of one, two, three", () -> {
            LadderCalls x = day(chain(3, 1), TURN, 2, 0);
            due("0", x.worst(1, 2), 0);
            due("1 2", x.worst(2, 2), 2);
            due("1 2 0", x.worst(3, 2), 2);
        });
        holds("of n below 3 the latest PLACE is the lowest digit", "two, one", () -> {
            due("1 2", day(chain(3, 1), TURN, 2, 0).worst(2, 0), 8 * 1 + 2);
            due("2", day(line(), TURN, 2, stand(0, 3)).worst(1, 0), 2);
        });
    }

    private void worstTrace() {
        String sentence = "(Its bodies come to THE TRACE as often as they are asked: once for each CALL of each row, by rows, all of it.)";
        holds(sentence, "NEAR, of one, two, three", () -> {
            LadderCalls x = lineDay();
            int[] asked = {4, 16 * 2, 64 * 3};
            long trace = 0;
            for (int n = 1; n <= 3; n++) {
                x.worst(n, 0);
                trace += asked[n - 1];
                due("of " + n, x.trace(), trace);
            }
        });
        holds(sentence, "whatever is told of it", () -> {
            for (int what = 0; what < 3; what++) {
                LadderCalls x = lineDay();
                x.worst(2, what);
                due("what = " + what, x.trace(), 32);
            }
        });
        holds(sentence, "the fewest rows, the most", () -> {
            LadderCalls one = day(town(1), NEAR, 1, 0);
            one.worst(1, 0);
            due("one PLACE, one CALL", one.trace(), 1);
            LadderCalls most = day(chain(6, 1), NEAR, 3, 0);
            most.worst(3, 0);
            due("six PLACES, three CALLS", most.trace(), 648);
        });
        holds(sentence, "bodies that go up", () -> {
            int[] own = {1, 10, 100, 1000};
            for (int kind = EVEN; kind <= AHEAD; kind++) {
                LadderCalls x = day(line(), kind, 2, stand(0, 3));
                x.worst(1, 0);
                due("by " + kind, x.trace(), 4 * own[kind] + 2);
            }
            LadderCalls x = day(line(), AHEAD, 1, 0);
            x.worst(1, 0);
            due("by AHEAD, one LADDER", x.trace(), 4 * 1000 + 1 + 3 * 10);
        });
        holds(sentence, "none for one that is refused", () -> {
            LadderCalls x = lineDay();
            x.worst(4, 0);
            x.worst(1, 3);
            due("THE TRACE", x.trace(), 0);
        });
    }

    private void worstRefused() {
        holds("BAD", "numbers of CALLS", () -> unchanged(LeastSuite::three, x -> {
            for (int n : new int[] {0, 4, -1, 12, LOW, HIGH}) due("n = " + n, x.worst(n, 0), BAD);
        }));
        holds("BAD", "what is not told", () -> unchanged(LeastSuite::three, x -> {
            for (int what : new int[] {-1, 3, LOW, HIGH}) due("what = " + what, x.worst(3, what), BAD);
        }));
        holds("STATE (ahead)", "with numbers as told, and not", () -> {
            unchanged(Suite::line, x -> due("no day yet", x.worst(1, 0), STATE));
            due("n that is none", line().worst(0, 0), STATE);
            due("what is not told", line().worst(1, 3), STATE);
            due("over", over().worst(3, 0), STATE);
        });
    }
}
