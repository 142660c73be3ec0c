/** Promises 1 to 5: a new object, PLACES and ROADS. */
final class PlacesSuite extends Suite {
    PlacesSuite(Check check, Doc doc) {
        super(check, doc);
    }

    @Override
    void all() {
        newObject();
        place();
        placeRefused();
        road();
        roadBad();
        roadRefused();
        apart();
        way();
        wayRefused();
    }

    private void newObject() {
        section("Promise 1");
        holds("No PLACES", "a new object", () -> {
            LadderCalls x = new LadderCalls();
            due("PLACES", x.about(0), 0);
            due("ROADS", x.about(1), 0);
            due("PLACE 0", x.way(0, 0), BAD);
        });
        holds("no LADDERS", "a new object", () -> {
            LadderCalls x = new LadderCalls();
            due("LADDERS", x.about(2), 0);
            due("CALLS", x.about(3), 0);
            due("where they stand", x.stand(), STATE);
            due("the end of a day", x.end(), STATE);
        });
        holds("the RULE is NEAR", "a new object", () -> {
            LadderCalls x = new LadderCalls();
            due("its KIND", x.about(4), NEAR);
            due("what it was", x.rule(TURN), NEAR);
        });
        holds("the RULE is NEAR", "of each object by itself", () -> {
            LadderCalls x = town(3);
            x.rule(AHEAD);
            due("the RULE of another one", new LadderCalls().about(4), NEAR);
            due("the PLACES of another one", new LadderCalls().about(0), 0);
        });
    }

    private void place() {
        section("Promise 2");
        holds("A PLACE: its number", "the first to the last", () -> {
            LadderCalls x = new LadderCalls();
            for (int i = 0; i < 6; i++) due("PLACE " + i, x.place(), i);
        });
        holds("A PLACE: its number", "it has no ROAD", () -> {
            LadderCalls x = line();
            x.place();
            due("the ROADS", x.about(1), 4);
            due("from it", x.apart(4, 0), NONE);
            due("the others", x.apart(0, 3), 9);
        });
        holds("A PLACE: its number", "behind a day that is over", () -> {
            LadderCalls x = lineDay();
            x.end();
            due("a fifth", x.place(), 4);
        });
    }

    private void placeRefused() {
        holds("STATE: there are LADDERS", "one, three", () -> {
            unchanged(() -> day(line(), NEAR, 1, 0), x -> due("one", x.place(), STATE));
            unchanged(() -> day(line(), NEAR, 3, 0), x -> due("three", x.place(), STATE));
        });
        holds("FULL", "a seventh", () -> unchanged(() -> chain(6, 1), x -> due("a seventh", x.place(), FULL)));
        holds("STATE ... FULL", "STATE ahead of FULL", () -> {
            LadderCalls x = day(chain(6, 1), NEAR, 1, 0);
            due("a seventh by day", x.place(), STATE);
            x.end();
            due("a seventh, the day is over", x.place(), FULL);
        });
    }

    private void road() {
        section("Promise 3");
        holds("A ROAD: how many there are", "the first to the last", () -> {
            LadderCalls x = chain(6, 100);
            int count = 5;
            for (int a = 0; a < 6; a++) {
                for (int b = a + 2; b < 6; b++) {
                    count++;
                    due("ROAD " + count, x.road(a, b, 100), count);
                }
            }
            due("each PLACE is joined to each", x.about(1), 15);
        });
        holds("A ROAD: how many there are", "the same two once more, from either side", () -> {
            LadderCalls x = town(2);
            due("first", x.road(0, 1, 5), 1);
            due("again", x.road(0, 1, 5), 2);
            due("back", x.road(1, 0, 5), 3);
        });
        holds("A ROAD: how many there are", "behind a day that is over", () -> {
            LadderCalls x = lineDay();
            x.end();
            due("a fifth", x.road(0, 3, 1), 5);
            due("it lies there", x.apart(0, 3), 1);
        });
    }

    private void roadBad() {
        holds("BAD", "a PLACE that is none, on either side", () -> unchanged(() -> chain(3, 5), x -> {
            for (int p : new int[] {-1, 3, 6, 8, LOW, HIGH}) {
                due("from " + p, x.road(p, 1, 5), BAD);
                due("to " + p, x.road(1, p, 5), BAD);
            }
        }));
        holds("BAD", "no PLACE at all", () -> unchanged(LadderCalls::new, x -> due("0 to 1", x.road(0, 1, 5), BAD)));
        holds("BAD", "a length that is none", () -> unchanged(() -> chain(3, 5), x -> {
            for (int length : new int[] {0, 101, -1, -100, LOW, HIGH}) due("length " + length, x.road(0, 2, length), BAD);
        }));
        holds("BAD: of one PLACE to itself, too", "the first, the last", () -> unchanged(() -> chain(3, 5), x -> {
            due("0 to 0", x.road(0, 0, 5), BAD);
            due("2 to 2", x.road(2, 2, 5), BAD);
        }));
    }

    private void roadRefused() {
        holds("STATE: there are LADDERS", "by day", () -> unchanged(Suite::lineDay, x -> due("0 to 3", x.road(0, 3, 1), STATE)));
        holds("FULL", "a sixteenth", () -> {
            unchanged(PlacesSuite::fifteen, x -> due("0 to 2", x.road(0, 2, 1), FULL));
        });
        holds("BAD ... STATE", "BAD ahead of STATE", () -> {
            LadderCalls x = lineDay();
            due("a PLACE that is none", x.road(0, 4, 5), BAD);
            due("to itself", x.road(0, 0, 5), BAD);
            due("no length", x.road(0, 1, 0), BAD);
        });
        holds("BAD ... FULL", "BAD ahead of FULL", () -> {
            LadderCalls x = fifteen();
            due("a PLACE that is none", x.road(0, 3, 5), BAD);
            due("to itself", x.road(0, 0, 5), BAD);
            due("too long", x.road(0, 1, 101), BAD);
        });
        holds("STATE ... FULL", "STATE ahead of FULL", () -> {
            LadderCalls x = day(fifteen(), NEAR, 1, 0);
            due("by day", x.road(0, 1, 5), STATE);
            x.end();
            due("the day is over", x.road(0, 1, 5), FULL);
        });
    }

    /** Three PLACES with 15 ROADS. */
    private static LadderCalls fifteen() {
        LadderCalls x = chain(3, 50);
        for (int i = 0; i < 13; i++) x.road(0, 1, 60);
        return x;
    }

    private void apart() {
        section("Promise 4");
        holds("APART", "the least, the largest", () -> {
            due("to itself", chain(6, 100).apart(5, 5), 0);
            due("one ROAD", chain(6, 1).apart(4, 5), 1);
            due("five ROADS", chain(6, 100).apart(5, 0), 500);
        });
        holds("NONE", "no ROAD from one of them, no ROAD at all, a ROAD to a third one", () -> {
            LadderCalls x = town(3, 0, 1, 5);
            due("to 2", x.apart(0, 2), NONE);
            due("from 2", x.apart(2, 1), NONE);
            due("no ROAD", town(2).apart(0, 1), NONE);
        });
        holds("BAD", "a PLACE that is none, on either side", () -> unchanged(Suite::line, x -> {
            for (int p : new int[] {-1, 4, 6, 8, LOW, HIGH}) {
                due("from " + p, x.apart(p, 0), BAD);
                due("to " + p, x.apart(0, p), BAD);
                due(p + " with itself", x.apart(p, p), BAD);
            }
        }));
        holds("BAD", "no PLACE at all", () -> due("0 with itself", new LadderCalls().apart(0, 0), BAD));
        holds("NONE. BAD", "a PLACE without a ROAD, and one that is none", () -> {
            due("BAD ahead of NONE", town(2).apart(1, 2), BAD);
        });
    }

    private void way() {
        section("Promise 5");
        holds("The PLACE behind a on a way to b that is as long as APART", "there and back", () -> {
            due("0 to 3", line().way(0, 3), 1);
            due("3 to 0", line().way(3, 0), 2);
            due("1 to 2, one ROAD", line().way(1, 2), 2);
        });
        holds("The PLACE behind a on a way to b that is as long as APART", "not by a ROAD that is longer", () -> {
            LadderCalls x = town(3, 0, 2, 9, 0, 1, 4, 1, 2, 4);
            due("by 1", x.way(0, 2), 1);
            x.road(2, 0, 7);
            due("straight", x.way(0, 2), 2);
        });
        holds("The PLACE behind a on a way to b that is as long as APART", "through the longest", () -> {
            LadderCalls x = chain(6, 100);
            for (int a = 0; a < 5; a++) due("from " + a, x.way(a, 5), a + 1);
            for (int a = 1; a < 6; a++) due("back from " + a, x.way(a, 0), a - 1);
        });
        holds("the first such one by number", "two ways as long, neither by b", () -> {
            due("by 1 and 2", town(4, 0, 2, 1, 2, 3, 1, 0, 1, 1, 1, 3, 1).way(0, 3), 1);
            due("by 4 and 5", town(6, 0, 5, 2, 5, 3, 1, 0, 4, 1, 4, 3, 2).way(0, 3), 4);
        });
        holds("the first such one by number", "one way straight to b", () -> {
            due("b is the first", town(3, 2, 0, 2, 2, 1, 1, 1, 0, 1).way(2, 0), 0);
            due("b is not the first", town(3, 0, 2, 2, 0, 1, 1, 1, 2, 1).way(0, 2), 1);
        });
        holds("b, if a is b", "with ROADS, without one, with a ring", () -> {
            due("0", line().way(0, 0), 0);
            due("3", line().way(3, 3), 3);
            due("without", town(2).way(1, 1), 1);
            due("a ring of 1 and 1", town(2, 0, 1, 1).way(1, 1), 1);
        });
    }

    private void wayRefused() {
        holds("NONE", "no ROAD from one of them, a ROAD to a third one", () -> {
            LadderCalls x = town(3, 0, 1, 5);
            due("to 2", x.way(0, 2), NONE);
            due("from 2", x.way(2, 0), NONE);
            due("no ROAD", town(2).way(0, 1), NONE);
        });
        holds("BAD", "a PLACE that is none, on either side", () -> unchanged(Suite::line, x -> {
            for (int p : new int[] {-1, 4, 6, 8, LOW, HIGH}) {
                due("from " + p, x.way(p, 0), BAD);
                due("to " + p, x.way(0, p), BAD);
            }
        }));
        holds("b, if a is b. NONE. BAD", "one with itself that is none", () -> {
            for (int p : new int[] {-1, 4, LOW, HIGH}) due(p + " with itself", line().way(p, p), BAD);
            due("no PLACE at all", new LadderCalls().way(0, 0), BAD);
        });
        holds("NONE. BAD", "a PLACE without a ROAD, and one that is none", () -> {
            due("BAD ahead of NONE", town(2).way(1, 2), BAD);
        });
    }
}
