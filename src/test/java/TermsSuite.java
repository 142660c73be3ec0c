/** The document's 'Terms': PLACES, LADDERS, CALLS, RULES, what is least, BOOKS, and the order of refusals. */
final class TermsSuite extends Suite {
    TermsSuite(Check check, Doc doc) {
        super(check, doc);
    }

    @Override
    void all() {
        section("Terms 1");
        places();
        roads();
        apart();
        ladders();
        stands();
        calls();
        section("Terms 2");
        kinds();
        nearAndEven();
        turn();
        ahead();
        section("Terms 3");
        moves();
        work();
        plan();
        section("Terms 4");
        books();
        findings();
        section("Terms, refusals");
        nothingChanges();
        order();
    }

    // ---- 1 PLACES

    private void places() {
        holds("PLACES (6 at most)", "the sixth comes, a seventh does not", () -> {
            LadderCalls x = town(5);
            due("the sixth", x.place(), 5);
            due("a seventh", x.place(), FULL);
            due("how many there are", x.about(0), 6);
        });
        holds("PLACES ... are numbered from 0 on", "0 is the first one, -1 is none", () -> {
            LadderCalls x = town(2, 0, 1, 7);
            due("0", x.apart(0, 1), 7);
            due("-1", x.apart(-1, 1), BAD);
        });
        holds("PLACES ... are numbered from 0 on", "5 is the last of six, 6 is none", () -> {
            LadderCalls x = chain(6, 7);
            due("5", x.apart(4, 5), 7);
            due("6", x.apart(4, 6), BAD);
        });
        holds("PLACES (6 at most)", "there may be none at all", () -> {
            LadderCalls x = new LadderCalls();
            due("how many there are", x.about(0), 0);
            due("0 is none", x.apart(0, 0), BAD);
        });
    }

    private void roads() {
        holds("ROADS (15 at most)", "the fifteenth comes, a sixteenth does not", () -> {
            LadderCalls x = town(2);
            for (int i = 1; i <= 14; i++) x.road(0, 1, 50 + i);
            due("the fifteenth", x.road(0, 1, 50), 15);
            due("a sixteenth", x.road(0, 1, 49), FULL);
            due("how many there are", x.about(1), 15);
            due("how long the fifteenth is", x.apart(0, 1), 50);
        });
        holds("join two of them", "from either side", () -> {
            LadderCalls x = town(3, 2, 1, 7);
            due("from 2", x.apart(2, 1), 7);
            due("from 1", x.apart(1, 2), 7);
            due("0 is not joined", x.apart(0, 1), NONE);
        });
        holds("with a length 1 .. 100", "the smallest, and the next below", () -> {
            LadderCalls x = town(2);
            due("1", x.road(0, 1, 1), 1);
            due("0", x.road(0, 1, 0), BAD);
            due("how long it is", x.apart(0, 1), 1);
        });
        holds("with a length 1 .. 100", "the largest, and the next above", () -> {
            LadderCalls x = town(2);
            due("101", x.road(0, 1, 101), BAD);
            due("100", x.road(0, 1, 100), 1);
            due("how long it is", x.apart(0, 1), 100);
        });
    }

    private void apart() {
        holds("APART of two is the least length of ways over ROADS between them", "several ROADS under one", () -> {
            LadderCalls x = line();
            due("0 to 3", x.apart(0, 3), 9);
            due("3 to 0", x.apart(3, 0), 9);
        });
        holds("APART of two is the least length of ways over ROADS between them", "ROADS side by side", () -> {
            LadderCalls x = town(2, 0, 1, 9, 0, 1, 4, 1, 0, 30);
            due("the least of three", x.apart(0, 1), 4);
        });
        holds("APART of two is the least length of ways over ROADS between them", "the longest there can be", () -> {
            due("five ROADS of 100", chain(6, 100).apart(0, 5), 500);
        });
        holds("APART of two is the least length of ways over ROADS between them", "a way that turns back in number", () -> {
            LadderCalls x = town(6, 0, 5, 1, 5, 1, 1, 1, 4, 1, 4, 2, 1, 2, 3, 1, 0, 3, 6);
            due("0 5 1 4 2 3", x.apart(0, 3), 5);
            due("5 1 4 2 3, from the other side", x.apart(3, 5), 4);
        });
        holds("(0 of one with itself)", "without a ROAD", () -> due("of one alone", town(1).apart(0, 0), 0));
        holds("(0 of one with itself)", "with ROADS", () -> due("3", line().apart(3, 3), 0));
        holds("TORN are PLACES, if two have none", "no PLACE, one, two", () -> {
            due("none", new LadderCalls().about(5), 0);
            due("one", town(1).about(5), 0);
            due("two", town(2).about(5), 1);
            due("two with a ROAD", town(2, 0, 1, 1).about(5), 0);
        });
        holds("TORN are PLACES, if two have none", "one alone of six, the last, the first, one between", () -> {
            due("the last", town(6, 0, 1, 1, 1, 2, 1, 2, 3, 1, 3, 4, 1).about(5), 1);
            due("the first", town(6, 1, 2, 1, 2, 3, 1, 3, 4, 1, 4, 5, 1).about(5), 1);
            due("one between", town(6, 0, 1, 1, 1, 2, 1, 2, 4, 1, 4, 5, 1).about(5), 1);
            due("none", chain(6, 1).about(5), 0);
        });
        holds("TORN are PLACES, if two have none", "parts that are joined one by one", () -> {
            LadderCalls x = town(6, 0, 1, 1, 2, 3, 1, 4, 5, 1);
            due("three parts", x.about(5), 1);
            x.road(1, 2, 1);
            due("two parts", x.about(5), 1);
            x.road(5, 0, 1);
            due("one part", x.about(5), 0);
        });
    }

    private void ladders() {
        holds("LADDERS (1 .. 3)", "the fewest, and the next below", () -> {
            LadderCalls x = line();
            due("none", x.begin(0, 0), BAD);
            due("one", x.begin(1, 0), 1);
            due("how many there are", x.about(2), 1);
        });
        holds("LADDERS (1 .. 3)", "the most, and the next above", () -> {
            LadderCalls x = line();
            due("four", x.begin(4, 0), BAD);
            due("three", x.begin(3, 0), 1);
            due("how many there are", x.about(2), 3);
        });
        holds("LADDERS (1 .. 3), numbered from 0 on", "0, 1, 2 of three", () -> {
            LadderCalls x = day(line(), NEAR, 3, stand(0, 1, 3));
            due("at PLACE 0", x.call(0), 0);
            due("at PLACE 1", x.call(1), 1);
            due("at PLACE 3", x.call(3), 2);
        });
        holds("stand at PLACES, more than one perhaps at one", "all three at one", () -> {
            LadderCalls x = day(line(), NEAR, 3, stand(1, 1, 1));
            due("how many there are", x.about(2), 3);
            due("where they stand", x.stand(), stand(1, 1, 1));
            due("one goes", x.call(0), 0);
            due("the others stay", x.stand(), stand(0, 1, 1));
        });
    }

    private void stands() {
        holds("A STAND is told as a number: the PLACE of LADDER 0, 8 times that of 1, 64 times that of 2", "three LADDERS", () -> {
            LadderCalls x = day(line(), NEAR, 3, 1 + 8 * 2 + 64 * 3);
            due("LADDER 0 stands at 1", x.ask(1), 0);
            due("LADDER 1 stands at 2", x.ask(2), 1);
            due("LADDER 2 stands at 3", x.ask(3), 2);
            due("the number", x.stand(), 209);
        });
        holds("A STAND is told as a number ... (of those there are)", "the largest of one, and beyond", () -> {
            LadderCalls x = chain(6, 1);
            due("5", x.begin(1, 5), 1);
            due("6, no PLACE", x.begin(1, 6), BAD);
            due("8, a digit more", x.begin(1, 8), BAD);
        });
        holds("A STAND is told as a number ... (of those there are)", "the largest of two, and beyond", () -> {
            LadderCalls x = chain(6, 1);
            due("45", x.begin(2, 45), 1);
            due("46, no PLACE", x.begin(2, 46), BAD);
            due("48, no PLACE", x.begin(2, 48), BAD);
            due("64, a digit more", x.begin(2, 64), BAD);
        });
        holds("A STAND is told as a number ... (of those there are)", "the largest of three, and beyond", () -> {
            LadderCalls x = chain(6, 1);
            due("365", x.begin(3, 365), 1);
            due("366, no PLACE", x.begin(3, 366), BAD);
            due("368, no PLACE", x.begin(3, 368), BAD);
            due("384, no PLACE", x.begin(3, 384), BAD);
            due("512, a digit more", x.begin(3, 512), BAD);
        });
        holds("A STAND is told as a number", "below 0 is none", () -> {
            LadderCalls x = chain(6, 1);
            for (int n = 1; n <= 3; n++) {
                due("-1", x.begin(n, -1), BAD);
                due("the lowest int", x.begin(n, LOW), BAD);
            }
        });
        holds("two STANDS are LIKE, if the same PLACES have as many", "three LADDERS in all orders", () -> {
            LadderCalls x = called(day(line(), NEAR, 3, stand(0, 1, 3)), 2, 0);
            int[] like = {stand(0, 1, 2), stand(0, 2, 1), stand(1, 0, 2), stand(1, 2, 0), stand(2, 0, 1), stand(2, 1, 0)};
            for (int s : like) {
                due("moving there", x.moves(stand(0, 1, 2), s), 0);
                due("WORK", x.work(2, s), 2);
            }
        });
        holds("two STANDS are LIKE, if the same PLACES have as many", "the same PLACES, but not as many", () -> {
            LadderCalls x = day(line(), NEAR, 3, stand(0, 0, 1));
            due("moving there", x.moves(stand(0, 0, 1), stand(0, 1, 1)), 3);
            due("WORK", x.work(0, stand(0, 1, 1)), 3);
        });
        holds("THE BEGINNING is a STAND", "it stays, wherever LADDERS go", () -> {
            LadderCalls x = called(lineDay(), 1, 2);
            due("where they stand", x.stand(), stand(1, 2));
            due("WORK of THE BEGINNING by no CALLS", x.work(0, stand(0, 3)), 0);
            due("WORK of where they stand by no CALLS", x.work(0, stand(1, 2)), 5);
        });
    }

    private void calls() {
        holds("CALLS (12 at most) are of PLACES", "the twelfth comes, a thirteenth does not", () -> {
            LadderCalls x = called(lineDay(), 1, 1, 1, 1, 1, 1, 1, 1, 1, 1, 1);
            due("the twelfth", x.call(2), 1);
            due("a thirteenth", x.call(2), FULL);
            due("how many there are", x.about(3), 12);
        });
        holds("CALLS (12 at most)", "none at first", () -> due("how many there are", lineDay().about(3), 0));
        holds("each is SERVED as it comes: a LADDER goes there", "from elsewhere, and where one stands", () -> {
            LadderCalls x = lineDay();
            due("who goes", x.call(1), 0);
            due("it is there", x.stand(), stand(1, 3));
            due("who goes now", x.call(1), 0);
            due("it still is there", x.stand(), stand(1, 3));
            due("how far", x.told(1, 2), 0);
        });
        holds("THE COST is the sum of APART of all that went", "no CALL, one, two LADDERS", () -> {
            LadderCalls x = lineDay();
            due("no CALL", x.cost(-1), 0);
            x.call(1);
            due("one", x.cost(-1), 3);
            x.call(2);
            due("two", x.cost(-1), 5);
        });
        holds("THE COST is the sum of APART of all that went", "the largest there can be", () -> {
            LadderCalls x = day(chain(6, 100), NEAR, 1, 0);
            due("twelve ways of 500", called(x, 5, 0, 5, 0, 5, 0, 5, 0, 5, 0, 5, 0).cost(-1), 6000);
        });
    }

    // ---- 2 RULES

    private void kinds() {
        holds("RULES are of KINDS: 0 NEAR, 1 EVEN, 2 TURN, 3 AHEAD", "the first and the last, and beyond", () -> {
            LadderCalls x = new LadderCalls();
            due("3", x.rule(3), 0);
            due("0", x.rule(0), 3);
            due("-1", x.rule(-1), BAD);
            due("4", x.rule(4), BAD);
        });
        holds("RULES are of KINDS: 0 NEAR, 1 EVEN, 2 TURN, 3 AHEAD", "each by its own body", () -> {
            int[] bodies = {1, 10, 100, 1000};
            for (int kind = 0; kind < 4; kind++) {
                LadderCalls x = seesaw(kind);
                x.ask(1);
                due("THE TRACE of " + kind, x.trace(), bodies[kind]);
            }
        });
        holds("NEAR stands over all others", "they go up to it where a LADDER stands", () -> {
            int[] bodies = {1, 11, 101, 1001};
            for (int kind = 0; kind < 4; kind++) {
                LadderCalls x = seesaw(kind);
                x.ask(2);
                due("THE TRACE of " + kind, x.trace(), bodies[kind]);
            }
        });
        holds("EVEN over AHEAD", "AHEAD goes up to it, not to NEAR", () -> {
            LadderCalls x = day(line(), AHEAD, 1, 0);
            x.ask(1);
            due("THE TRACE", x.trace(), 1010);
        });
        holds("\"Up\" is what the KIND that stands over it does, \"up two\" what NEAR does", "up two is not by EVEN", () -> {
            LadderCalls x = day(line(), AHEAD, 1, 0);
            x.ask(0);
            due("THE TRACE, one LADDER, which stands there", x.trace(), 1001);
        });
        holds("Which LADDER goes (numbers in brackets come to THE TRACE as often as that body is asked)", "CALLS and questions", () -> {
            LadderCalls x = seesaw(NEAR);
            x.call(1);
            x.ask(1);
            x.cruel();
            due("three times NEAR", x.trace(), 3);
            x.rule(EVEN);
            x.ask(1);
            x.ask(1);
            due("twice EVEN as well", x.trace(), 23);
        });
    }

    private void nearAndEven() {
        holds("NEAR (1): the one with the least APART to the CALL", "the last one of three", () -> {
            due("5 is nearest to LADDER 2", day(chain(6, 1), NEAR, 3, stand(0, 2, 3)).call(5), 2);
        });
        holds("of several the first", "NEAR, two as near, three as near", () -> {
            due("two", day(chain(5, 1), NEAR, 3, stand(0, 4, 2)).call(3), 1);
            due("three", day(chain(5, 1), NEAR, 3, stand(1, 3, 1)).call(2), 0);
        });
        holds("EVEN (10): up, if one stands there", "though another one's sum is less", () -> {
            LadderCalls x = called(day(line(), NEAR, 2, stand(0, 0)), 1, 2, 3, 2);
            x.rule(EVEN);
            due("11 and 0 ways so far, 0 and 7 to go", x.ask(2), 0);
        });
        holds("EVEN ... else the one with the least sum of all its ways so far and APART to the CALL", "not the nearest", () -> {
            LadderCalls x = called(lineDay(), 1, 0);
            due("NEAR", x.ask(1), 0);
            x.rule(EVEN);
            due("6 + 3 and 0 + 6", x.ask(1), 1);
        });
        holds("EVEN ... else the one with the least sum of all its ways so far and APART to the CALL", "one less, one more", () -> {
            LadderCalls x = town(4, 0, 1, 2, 1, 2, 3, 2, 3, 9);
            called(day(x, NEAR, 2, stand(0, 2)), 1, 0);
            x.rule(EVEN);
            due("4 + 2 and 0 + 3", x.ask(1), 1);
            x.back();
            due("2 + 3 + 9 and 0 + 9, from 1", x.ask(3), 1);
            due("2 + 2 and 0 + 5, from 1", x.ask(0), 0);
        });
        holds("of several the first", "EVEN, though the second is nearer", () -> {
            LadderCalls x = called(day(chain(5, 1), NEAR, 2, stand(0, 4)), 3);
            due("NEAR", x.ask(2), 1);
            x.rule(EVEN);
            due("0 + 2 and 1 + 1", x.ask(2), 0);
        });
    }

    private void turn() {
        holds("TURN (100): up, if one stands there", "though it is another one's turn", () -> {
            due("the second stands there", day(line(), TURN, 2, stand(0, 1)).call(1), 1);
        });
        holds("TURN ... else the one behind the one that went latest by a TURN that did not go up", "one that went up between", () -> {
            LadderCalls x = day(chain(6, 1), TURN, 3, stand(0, 0, 1));
            due("first", x.call(2), 0);
            due("up", x.call(1), 2);
            due("behind the first", x.call(3), 1);
        });
        holds("TURN ... else the one behind the one that went latest by a TURN that did not go up", "another RULE between", () -> {
            LadderCalls x = day(chain(6, 1), TURN, 3, stand(0, 0, 5));
            x.call(2);
            x.rule(NEAR);
            due("by NEAR", x.call(4), 2);
            x.rule(TURN);
            due("behind the first", x.call(3), 1);
        });
        holds("(0 ahead of that", "no TURN yet, and only one that went up", () -> {
            due("none", day(chain(6, 1), TURN, 3, stand(5, 1, 1)).call(0), 0);
            LadderCalls x = day(chain(6, 1), TURN, 3, stand(5, 1, 3));
            due("up", x.call(1), 1);
            due("the first, still", x.call(2), 0);
        });
        holds("(0 ahead of that", "only other RULES yet", () -> {
            LadderCalls x = called(day(chain(6, 1), NEAR, 2, 0), 1);
            x.rule(TURN);
            due("the first, though it went latest", x.call(2), 0);
        });
        holds("behind the last one 0 again)", "of three, two, one", () -> {
            LadderCalls x = day(chain(6, 1), TURN, 3, 0);
            due("three, first", x.call(1), 0);
            due("three, second", x.call(2), 1);
            due("three, third", x.call(3), 2);
            due("three, first again", x.call(4), 0);
            x.begin(2, 0);
            due("two, first", x.call(1), 0);
            due("two, second", x.call(2), 1);
            due("two, first again", x.call(3), 0);
            x.begin(1, 0);
            due("one", x.call(1), 0);
            due("one again", x.call(2), 0);
        });
    }

    private void ahead() {
        holds("AHEAD (1000): up two, if one stands there", "though another one costs no more by WORK", () -> {
            LadderCalls x = day(town(3, 0, 1, 3, 1, 2, 1), NEAR, 2, stand(1, 1));
            called(x, 0, 2, 1, 2, 1, 2, 1, 2, 1);
            due("where they stand", x.stand(), stand(0, 1));
            due("WORK of it", x.work(9, stand(0, 1)), 11);
            due("WORK of both there, 3 from it", x.work(9, stand(1, 1)), 8);
            x.rule(AHEAD);
            due("the one there", x.ask(1), 1);
        });
        holds("AHEAD ... up, if there is but one LADDER", "one, and not two", () -> {
            LadderCalls x = day(line(), AHEAD, 1, 0);
            due("one", x.call(3), 0);
            due("THE TRACE", x.trace(), 1010);
            x.begin(2, 0);
            due("two", x.call(3), 0);
            due("THE TRACE of two", x.trace(), 2010);
        });
        holds("else the one with which the WORK (of all CALLS with this one) of the STAND that it makes, and APART of its way, "
            + "together are least", "the seventh CALL", () -> {
            LadderCalls x = called(seesaw(AHEAD), 1, 0, 1, 0, 1, 0);
            due("NEAR sent the first one to all of them", x.stand(), stand(0, 2));
            due("7 + 1 and 3 + 3", x.call(1), 1);
        });
        holds("of several the first", "AHEAD, the fifth CALL", () -> {
            LadderCalls x = called(seesaw(AHEAD), 1, 0, 1, 0);
            due("5 + 1 and 3 + 3", x.call(1), 0);
        });
        holds("AHEAD ... (of all CALLS with this one)", "a question behind the twelfth CALL", () -> {
            LadderCalls x = called(seesaw(NEAR), 1, 0, 1, 0, 1, 0, 1, 0, 1, 0, 1, 0);
            x.rule(AHEAD);
            due("7 + 1 and 3 + 3", x.ask(1), 1);
        });
    }

    // ---- 3 what would be least

    private void moves() {
        String sentence = "MOVES of a STAND to another one cost the least sum of APART, if each PLACE of the one goes to one of the other";
        holds(sentence, "crossed numbers", () -> {
            due("0 to 1, 3 to 2", lineDay().moves(stand(0, 3), stand(2, 1)), 5);
        });
        holds(sentence, "two of one PLACE go to two", () -> {
            due("0 to 0, 0 to 3", lineDay().moves(stand(0, 0), stand(0, 3)), 9);
            due("and back", lineDay().moves(stand(3, 0), stand(0, 0)), 9);
        });
        holds(sentence, "each of the six orders of three is the least once", () -> {
            LadderCalls x = day(chain(6, 1), NEAR, 3, 0);
            int[] orders = {stand(0, 2, 5), stand(0, 5, 2), stand(2, 0, 5), stand(2, 5, 0), stand(5, 0, 2), stand(5, 2, 0)};
            for (int order : orders) due("to " + order, x.moves(stand(1, 2, 4), order), 2);
        });
        holds(sentence, "none, and the largest there can be", () -> {
            LadderCalls x = day(chain(6, 100), NEAR, 3, 0);
            due("a STAND to itself", x.moves(stand(5, 5, 5), stand(5, 5, 5)), 0);
            due("three ways of 500", x.moves(0, stand(5, 5, 5)), 1500);
        });
    }

    private void work() {
        String sentence = "WORK of a STAND, for the first n CALLS, is the least cost of moving from THE BEGINNING, in order, "
            + "to n STANDS, each with a LADDER at its CALL, and then to it";
        holds(sentence, "no CALL: the cost of moving to it", () -> {
            LadderCalls x = called(lineDay(), 1);
            due("THE BEGINNING", x.work(0, stand(0, 3)), 0);
            due("1 and 2", x.work(0, stand(1, 2)), 5);
        });
        holds(sentence, "in order", () -> {
            LadderCalls x = day(chain(3, 1), NEAR, 1, 0);
            due("1, 2, then to 2", called(x, 1, 2).work(2, 2), 2);
            x.begin(1, 0);
            due("2, 1, then to 2", called(x, 2, 1).work(2, 2), 4);
        });
        holds(sentence, "and then to it, though it is where they began", () -> {
            due("there and back", called(lineDay(), 1, 2, 1).work(3, stand(0, 3)), 10);
        });
        holds(sentence, "a LADDER moves that no CALL asks for", () -> {
            LadderCalls x = called(seesaw(NEAR), 1, 0, 1, 0, 1, 0, 1, 0, 1, 0, 1, 0);
            due("the far one goes to 1 at first", x.work(12, stand(0, 1)), 3);
            due("and back in the end", x.work(12, stand(0, 2)), 6);
            due("both to 2 in the end", x.work(12, stand(2, 2)), 10);
        });
        holds(sentence, "the largest there can be", () -> {
            LadderCalls x = called(day(chain(6, 100), NEAR, 1, 0), 5, 0, 5, 0, 5, 0, 5, 0, 5, 0, 5, 0);
            due("twelve ways of 500 and one more", x.work(12, 5), 6500);
        });
        holds("LEAST of n is the least WORK of all", "it is of one of the STANDS, and none has less", () -> {
            LadderCalls x = called(lineDay(), 1, 2, 1);
            int least = HIGH;
            for (int s = 0; s < 64; s++) {
                int work = x.work(3, s);
                if (work != BAD && work < least) least = work;
            }
            due("by all STANDS", least, 5);
            due("LEAST", x.least(3), 5);
        });
    }

    private void plan() {
        holds("THE PLAN of n CALLS: for each in order the first LADDER that may go", "any of them may", () -> {
            LadderCalls x = called(day(line(), TURN, 3, stand(1, 1, 1)), 0);
            due("the first", x.plan(1, 0), 0);
        });
        holds("THE PLAN of n CALLS: for each in order the first LADDER that may go", "the first one may, in the end", () -> {
            LadderCalls x = called(day(town(3, 0, 1, 1, 0, 2, 1), NEAR, 2, stand(1, 0)), 0, 2, 0);
            due("LEAST", x.least(3), 2);
            due("not the one that stands there", x.plan(3, 0), 0);
            due("it goes on", x.plan(3, 1), 0);
            due("the other one is still there", x.plan(3, 2), 1);
        });
        holds("(the others stay)", "none moves ahead for what comes", () -> {
            LadderCalls x = called(seesaw(NEAR), 1, 0, 1, 0);
            due("LEAST", x.least(4), 3);
            due("the far one", x.plan(4, 0), 1);
            due("the one that stayed", x.plan(4, 1), 0);
            due("the far one stayed, too", x.plan(4, 2), 1);
            due("and the first", x.plan(4, 3), 0);
        });
        holds("such that all can still be served, one going at each, for LEAST in all", "the first one may not", () -> {
            LadderCalls x = called(day(town(3, 0, 1, 1, 0, 2, 1), NEAR, 2, stand(1, 0)), 0, 2);
            due("LEAST", x.least(2), 1);
            due("the one that stands there", x.plan(2, 0), 1);
            due("and goes on", x.plan(2, 1), 1);
        });
        holds("such that all can still be served, one going at each, for LEAST in all", "twelve CALLS, as of eleven of them", () -> {
            LadderCalls x = called(seesaw(NEAR), 1, 0, 1, 0, 1, 0, 1, 0, 1, 0, 1, 0);
            for (int i = 0; i < 12; i++) due("CALL " + i, x.plan(12, i), (i + 1) % 2);
            due("the last of eleven", x.plan(11, 10), 1);
            due("of three the first one goes to all", x.plan(3, 0) + x.plan(3, 1) + x.plan(3, 2), 0);
        });
    }

    // ---- 4 BOOKS

    private void books() {
        holds("BOOKS (3 at most at 0 .. 2)", "the first and the last, and beyond", () -> {
            LadderCalls x = new LadderCalls();
            due("0", x.book(0, BYTES, 1), 1);
            due("2", x.book(2, BYTES, 1), 1);
            due("-1", x.book(-1, BYTES, 1), BAD);
            due("3", x.book(3, BYTES, 1), BAD);
        });
        holds("BOOKS (3 at most at 0 .. 2)", "each by itself", () -> {
            LadderCalls x = new LadderCalls();
            for (int b = 0; b < 3; b++) {
                x.book(b, BYTES + b, 1);
                x.row(b, 0, 1);
                x.put(b, BYTES + b, 0, 0, 40 + b);
            }
            for (int b = 0; b < 3; b++) due("BOOK " + b, x.item(b, BYTES + b, 0, 0), 40 + b, x.status(), 0);
        });
        holds("are up to 4 ROWS", "four, five, none", () -> {
            LadderCalls x = new LadderCalls();
            due("four", x.book(0, BYTES, 4), 1);
            due("the fourth", x.row(0, 3, 1), 1);
            due("a fifth", x.row(0, 4, 1), INDEX);
            due("five", x.book(0, BYTES, 5), BAD);
            due("none", x.book(0, BYTES, 0), 1);
            due("the first of none", x.row(0, 0, 1), INDEX);
        });
        holds("of a SORT: 0 BYTES, 1 SHORTS, 2 INTS, 3 LONGS", "the first and the last, and beyond", () -> {
            LadderCalls x = new LadderCalls();
            due("0", x.book(0, 0, 1), 1);
            due("3", x.book(1, 3, 1), 1);
            due("-1", x.book(2, -1, 1), BAD);
            due("4", x.book(2, 4, 1), BAD);
        });
        holds("of a SORT: 0 BYTES, 1 SHORTS, 2 INTS, 3 LONGS", "each keeps its own largest and smallest", () -> {
            long[] most = {127, 32767, HIGH, Long.MAX_VALUE};
            for (int sort = 0; sort < 4; sort++) {
                LadderCalls x = new LadderCalls();
                x.book(0, sort, 1);
                x.row(0, 0, 2);
                x.put(0, sort, 0, 0, most[sort]);
                x.put(0, sort, 0, 1, -most[sort] - 1);
                due("the largest of SORT " + sort, x.item(0, sort, 0, 0), most[sort]);
                due("the smallest of SORT " + sort, x.item(0, sort, 0, 1), -most[sort] - 1);
            }
        });
        holds("a ROW may be MISSING", "one of two", () -> {
            LadderCalls x = shelved(new LadderCalls(), null, numbers(7));
            due("MISSING", x.item(0, LONGS, 0, 0), 0, x.status(), NULL);
            due("there", x.item(0, LONGS, 1, 0), 7, x.status(), 0);
        });
        holds("has up to 8 numbers", "eight, nine, none", () -> {
            LadderCalls x = shelved(new LadderCalls(), null, null);
            due("eight", x.row(0, 0, 8), 1);
            due("the eighth", x.put(0, LONGS, 0, 7, 5), 1);
            due("a ninth", x.put(0, LONGS, 0, 8, 5), INDEX);
            due("nine", x.row(0, 1, 9), BAD);
            due("none", x.row(0, 1, 0), 1);
            due("the first of none", x.put(0, LONGS, 1, 0, 5), INDEX);
        });
        holds("0 at first", "all eight, in a new ROW and in one that comes for another", () -> {
            LadderCalls x = shelved(new LadderCalls(), numbers(1, 2, 3, 4, 5, 6, 7, 8), null);
            x.row(0, 0, 8);
            x.row(0, 1, 8);
            for (int i = 0; i < 8; i++) {
                due("anew, number " + i, x.item(0, LONGS, 0, i), 0, x.status(), 0);
                due("new, number " + i, x.item(0, LONGS, 1, i), 0, x.status(), 0);
            }
        });
    }

    private void findings() {
        holds("FINDINGS by the machine's word: NULL (no BOOK, a ROW that is MISSING)", "each of both", () -> {
            LadderCalls x = shelved(new LadderCalls(), (long[]) null);
            due("no BOOK", x.put(1, LONGS, 0, 0, 5), NULL);
            due("a ROW that is MISSING", x.put(0, LONGS, 0, 0, 5), NULL);
        });
        holds("INDEX (no such ROW, number)", "each of both, on either side", () -> {
            LadderCalls x = shelved(new LadderCalls(), numbers(7));
            due("ROW -1", x.put(0, LONGS, -1, 0, 5), INDEX);
            due("ROW 1 of one", x.put(0, LONGS, 1, 0, 5), INDEX);
            due("number -1", x.put(0, LONGS, 0, -1, 5), INDEX);
            due("number 1 of one", x.put(0, LONGS, 0, 1, 5), INDEX);
        });
        holds("CAST (it is of another SORT)", "each of the others", () -> {
            for (int own = 0; own < 4; own++) {
                LadderCalls x = new LadderCalls();
                x.book(0, own, 1);
                x.row(0, 0, 1);
                for (int other = 0; other < 4; other++) {
                    due("taken as of " + other + ", of " + own, x.put(0, other, 0, 0, 5), other == own ? 1 : CAST);
                }
            }
        });
        holds("SIZE (below 0)", "the next below what is allowed", () -> {
            LadderCalls x = shelved(new LadderCalls(), (long[]) null);
            due("a ROW of -1", x.row(0, 0, -1), SIZE);
            due("a BOOK of -1", x.book(1, LONGS, -1), SIZE);
        });
    }

    // ---- refusals

    /** BOOKS, and a day with all that may be: what is refused could change any of it. */
    private static LadderCalls busy() {
        LadderCalls x = shelved(line(), numbers(1, 2, 3), null, numbers(), numbers(0, 1));
        return called(day(x, TURN, 2, stand(0, 3)), 1, 2, 0);
    }

    private void nothingChanges() {
        holds("Refused, and nothing changes", "each call, by each number that may be wrong", () -> unchanged(TermsSuite::busy, x -> {
            due("place()", x.place(), STATE);
            due("road()", x.road(0, 1, 1), STATE);
            due("apart()", x.apart(0, 4), BAD);
            due("way()", x.way(4, 0), BAD);
            due("begin() of no LADDERS", x.begin(0, 0), BAD);
            due("begin() at no STAND", x.begin(3, 4), BAD);
            due("rule()", x.rule(4), BAD);
            due("call()", x.call(4), BAD);
            due("ask()", x.ask(-1), BAD);
            due("told()", x.told(3, 0), BAD);
            due("cost()", x.cost(2), BAD);
            due("moves()", x.moves(0, 64), BAD);
            due("work()", x.work(4, 0), BAD);
            due("least()", x.least(4), BAD);
            due("plan()", x.plan(3, 3), BAD);
            due("worst() of four", x.worst(4, 0), BAD);
            due("worst(), what", x.worst(3, 3), BAD);
            due("about()", x.about(6), BAD);
        }));
        holds("Refused, and nothing changes but status()", "each call that has one", () -> unchanged(TermsSuite::busy, x -> {
            due("book() of five", x.book(0, LONGS, 5), BAD, x.status(), BAD);
            due("book() of -1", x.book(0, BYTES, -1), SIZE, x.status(), SIZE);
            due("row() of nine", x.row(0, 0, 9), BAD, x.status(), BAD);
            due("row() of -1", x.row(0, 0, -1), SIZE, x.status(), SIZE);
            due("row() that is none", x.row(0, 4, 1), INDEX, x.status(), INDEX);
            due("put() as of another SORT", x.put(0, INTS, 0, 0, 9), CAST, x.status(), CAST);
            due("put() beyond the ROW", x.put(0, LONGS, 0, 3, 9), INDEX, x.status(), INDEX);
            due("item()", x.item(0, LONGS, 1, 0), 0, x.status(), NULL);
            due("roads()", x.roads(0), 0, x.status(), STATE);
            due("calls()", x.calls(0, 4), 0, x.status(), INDEX);
            due("roads() of no BOOK's number", x.roads(3), BAD, x.status(), BAD);
            due("calls() of no BOOK's number", x.calls(-1, 0), BAD, x.status(), BAD);
        }));
        holds("Refused, and nothing changes but status()", "what has no status() leaves it", () -> {
            LadderCalls x = busy();
            x.put(0, INTS, 0, 0, 9);
            x.call(4);
            x.place();
            x.worst(0, 0);
            due("status()", x.status(), CAST);
        });
    }

    private void order() {
        holds("the first one here: BAD (a number is not as told, or there is no such thing), STATE (as told)", "both hold", () -> {
            LadderCalls x = busy();
            due("a number that is not as told", x.road(0, 1, 101), BAD);
            due("no such thing", x.road(0, 4, 1), BAD);
            due("no LADDERS, no such PLACE", line().call(4), BAD);
            due("TORN, no such STAND", town(2).begin(1, 2), BAD);
        });
        holds("STATE (as told), FULL", "both hold", () -> {
            LadderCalls x = day(chain(6, 1), NEAR, 1, 0);
            due("a seventh PLACE by day", x.place(), STATE);
        });
        holds("BAD ... FULL", "both hold", () -> due("a thirteenth CALL, of no PLACE", fullDay().call(4), BAD));
        holds("BAD ... then FINDINGS", "both hold", () -> {
            LadderCalls x = new LadderCalls();
            due("no such SORT, no BOOK", x.put(0, 4, 0, 0, 5), BAD);
            due("no BOOK's number, below 0", x.book(3, LONGS, -1), BAD);
            due("nine numbers, no BOOK", x.row(0, 0, 9), BAD);
        });
    }
}
