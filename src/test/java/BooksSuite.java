/** Promises 22 to 27: BOOKS, and the ROADS and CALLS that come from them. */
final class BooksSuite extends Suite {
    BooksSuite(Check check, Doc doc) {
        super(check, doc);
    }

    @Override
    void all() {
        book();
        bookRefused();
        row();
        rowRefused();
        put();
        putRefused();
        putOrder();
        item();
        itemRefused();
        roads();
        roadsEndByFindings();
        roadsEndAsRoad();
        roadsOrder();
        calls();
        callsEndByFindings();
        callsEndAsCall();
        callsOrder();
    }

    /** BOOK 0 of LONGS: a ROW of three, one that is MISSING, one of none, one of eight. */
    private static LadderCalls shelf() {
        return shelved(line(), numbers(11, 12, 13), null, numbers(), numbers(1, 2, 3, 4, 5, 6, 7, 8));
    }

    private static LadderCalls of(int sort, int size) {
        LadderCalls x = new LadderCalls();
        x.book(0, sort, 1);
        x.row(0, 0, size);
        return x;
    }

    // ---- book, row

    private void book() {
        section("Promise 22");
        holds("A BOOK gets n (4 at most) ROWS of a SORT", "none to four, of each SORT, at each number", () -> {
            LadderCalls x = new LadderCalls();
            for (int b = 0; b < 3; b++) {
                for (int sort = 0; sort < 4; sort++) {
                    for (int n = 0; n <= 4; n++) {
                        due("BOOK " + b + " of " + n + " of SORT " + sort, x.book(b, sort, n), 1, x.status(), 0);
                        due("a ROW behind the last", x.row(b, n, 1), INDEX);
                    }
                }
            }
        });
        holds("of a SORT", "another SORT than it had", () -> {
            LadderCalls x = shelf();
            x.book(0, BYTES, 1);
            x.row(0, 0, 1);
            due("as of what it was", x.put(0, LONGS, 0, 0, 5), CAST);
            due("as of what it is", x.put(0, BYTES, 0, 0, 257), 1);
            due("cast as what it is", x.item(0, BYTES, 0, 0), 1);
        });
        holds("all MISSING: 1", "a first BOOK, and one that comes for another", () -> {
            LadderCalls x = shelf();
            due("another", x.book(0, LONGS, 4), 1);
            due("a first", x.book(1, LONGS, 4), 1);
            for (int b = 0; b < 2; b++) {
                for (int r = 0; r < 4; r++) due("ROW " + r + " of BOOK " + b, x.item(b, LONGS, r, 0), 0, x.status(), NULL);
            }
        });
        holds("A BOOK gets n", "the others stay", () -> {
            LadderCalls x = shelf();
            x.book(1, BYTES, 4);
            due("BOOK 0", x.item(0, LONGS, 0, 2), 13, x.status(), 0);
        });
    }

    private void bookRefused() {
        holds("BAD", "no BOOK's number", () -> unchanged(BooksSuite::shelf, x -> {
            for (int b : new int[] {-1, 3, LOW, HIGH}) due("BOOK " + b, x.book(b, BYTES, 1), BAD, x.status(), BAD);
        }));
        holds("BAD", "no SORT", () -> unchanged(BooksSuite::shelf, x -> {
            for (int sort : new int[] {-1, 4, LOW, HIGH}) due("SORT " + sort, x.book(0, sort, 1), BAD, x.status(), BAD);
        }));
        holds("BAD", "more than four ROWS", () -> unchanged(BooksSuite::shelf, x -> {
            for (int n : new int[] {5, 8, HIGH}) due(n + " ROWS", x.book(0, LONGS, n), BAD, x.status(), BAD);
        }));
        holds("SIZE", "below 0", () -> unchanged(BooksSuite::shelf, x -> {
            for (int n : new int[] {-1, -4, LOW}) due(n + " ROWS", x.book(0, LONGS, n), SIZE, x.status(), SIZE);
        }));
        holds("SIZE", "below 0, where there is no BOOK", () -> {
            LadderCalls x = new LadderCalls();
            due("-1", x.book(0, LONGS, -1), SIZE);
            due("none came", x.row(0, 0, 1), NULL);
        });
        holds("BAD; SIZE", "BAD ahead of SIZE", () -> {
            LadderCalls x = new LadderCalls();
            due("no BOOK's number", x.book(3, LONGS, -1), BAD);
            due("no SORT", x.book(0, 4, -1), BAD);
        });
    }

    private void row() {
        section("Promise 23");
        holds("A ROW becomes a new one of n (8 at most) numbers: 1", "none to eight, the first and the last ROW", () -> {
            LadderCalls x = new LadderCalls();
            x.book(0, INTS, 4);
            for (int n = 0; n <= 8; n++) {
                for (int r = 0; r < 4; r += 3) {
                    due("ROW " + r + " of " + n, x.row(0, r, n), 1, x.status(), 0);
                    due("a number behind the last", x.put(0, INTS, r, n, 5), INDEX);
                    if (n > 0) due("the last", x.put(0, INTS, r, n - 1, 5), 1);
                }
            }
        });
        holds("A ROW becomes a new one", "what it held is gone, of the same size and of another", () -> {
            LadderCalls x = shelf();
            x.row(0, 0, 3);
            x.row(0, 3, 2);
            for (int i = 0; i < 3; i++) due("the same, number " + i, x.item(0, LONGS, 0, i), 0, x.status(), 0);
            due("shorter, the last", x.item(0, LONGS, 3, 1), 0, x.status(), 0);
            due("shorter, one behind", x.item(0, LONGS, 3, 2), 0, x.status(), INDEX);
        });
        holds("A ROW becomes a new one", "the others stay", () -> {
            LadderCalls x = shelf();
            x.row(0, 2, 8);
            due("ROW 0", x.item(0, LONGS, 0, 2), 13, x.status(), 0);
            due("ROW 1", x.item(0, LONGS, 1, 0), 0, x.status(), NULL);
            due("ROW 3", x.item(0, LONGS, 3, 7), 8, x.status(), 0);
        });
    }

    private void rowRefused() {
        holds("BAD", "no BOOK's number", () -> unchanged(BooksSuite::shelf, x -> {
            for (int b : new int[] {-1, 3, LOW, HIGH}) due("BOOK " + b, x.row(b, 0, 1), BAD, x.status(), BAD);
        }));
        holds("BAD", "more than eight numbers", () -> unchanged(BooksSuite::shelf, x -> {
            for (int n : new int[] {9, 100, HIGH}) due(n + " numbers", x.row(0, 0, n), BAD, x.status(), BAD);
        }));
        holds("NULL", "no BOOK", () -> {
            unchanged(BooksSuite::shelf, x -> due("BOOK 1", x.row(1, 0, 1), NULL, x.status(), NULL));
        });
        holds("INDEX", "no such ROW", () -> unchanged(BooksSuite::shelf, x -> {
            for (int r : new int[] {-1, 4, LOW, HIGH}) due("ROW " + r, x.row(0, r, 1), INDEX, x.status(), INDEX);
        }));
        holds("INDEX", "a BOOK of one ROW, of none", () -> {
            LadderCalls x = new LadderCalls();
            x.book(0, LONGS, 1);
            due("ROW 1 of one", x.row(0, 1, 1), INDEX);
            x.book(0, LONGS, 0);
            due("ROW 0 of none", x.row(0, 0, 1), INDEX);
        });
        holds("SIZE", "below 0", () -> unchanged(BooksSuite::shelf, x -> {
            for (int n : new int[] {-1, -8, LOW}) {
                due(n + " numbers", x.row(0, 0, n), SIZE, x.status(), SIZE);
                due(n + " numbers of one that is MISSING", x.row(0, 1, n), SIZE, x.status(), SIZE);
            }
        }));
        holds("BAD; NULL; INDEX; SIZE (the last of these)", "the first of those that hold", () -> {
            LadderCalls x = shelf();
            due("nine numbers, no BOOK", x.row(1, 9, 9), BAD);
            due("nine numbers, no ROW", x.row(0, 4, 9), BAD);
            due("no BOOK's number, below 0", x.row(3, 4, -1), BAD);
            due("no BOOK, no ROW, below 0", x.row(1, 4, -1), NULL);
            due("no ROW, below 0", x.row(0, 4, -1), INDEX);
        });
    }

    // ---- put, item

    private void put() {
        section("Promise 24");
        holds("A number of a ROW becomes v", "the first, the last, the others stay", () -> {
            LadderCalls x = shelf();
            due("the first", x.put(0, LONGS, 3, 0, 91), 1, x.status(), 0);
            due("the last", x.put(0, LONGS, 3, 7, 98), 1, x.status(), 0);
            int[] want = {91, 2, 3, 4, 5, 6, 7, 98};
            for (int i = 0; i < 8; i++) due("number " + i, x.item(0, LONGS, 3, i), want[i]);
            due("another ROW", x.item(0, LONGS, 0, 0), 11);
        });
        holds("as Java casts it, taken as of a SORT: 1", "BYTES, the largest, the smallest, and beyond", () -> {
            casts(BYTES, numbers(127, 128, -128, -129, 255, 256, Long.MAX_VALUE), numbers(127, -128, -128, 127, -1, 0, -1));
        });
        holds("as Java casts it, taken as of a SORT", "SHORTS, the largest, the smallest, and beyond", () -> {
            casts(SHORTS, numbers(32767, 32768, -32768, -32769, 65535, 65536, 128), numbers(32767, -32768, -32768, 32767, -1, 0, 128));
        });
        holds("as Java casts it, taken as of a SORT", "INTS, the largest, the smallest, and beyond", () -> {
            casts(INTS, numbers(HIGH, HIGH + 1L, LOW, LOW - 1L, BEYOND - 1, BEYOND, BEYOND + 5), numbers(HIGH, LOW, LOW, HIGH, -1, 0, 5));
        });
        holds("as Java casts it, taken as of a SORT", "LONGS, the largest, the smallest", () -> {
            long[] all = numbers(Long.MAX_VALUE, Long.MIN_VALUE, BEYOND, -BEYOND, 0, -1);
            casts(LONGS, all, all);
        });
    }

    private void casts(int sort, long[] put, long[] want) {
        LadderCalls x = of(sort, 2);
        for (int i = 0; i < put.length; i++) {
            due("put " + put[i], x.put(0, sort, 0, 1, put[i]), 1, x.status(), 0);
            due("item of " + put[i], x.item(0, sort, 0, 1), want[i], x.status(), 0);
            due("the one beside it", x.item(0, sort, 0, 0), 0, x.status(), 0);
        }
    }

    private void refusesPut(LadderCalls x, int book, int sort, int r, int i, int why) {
        due("put " + book + " " + sort + " " + r + " " + i, x.put(book, sort, r, i, 99), why, x.status(), why);
    }

    private void putRefused() {
        holds("BAD", "no BOOK's number, no SORT", () -> unchanged(BooksSuite::shelf, x -> {
            for (int b : new int[] {-1, 3, LOW, HIGH}) refusesPut(x, b, LONGS, 0, 0, BAD);
            for (int sort : new int[] {-1, 4, LOW, HIGH}) refusesPut(x, 0, sort, 0, 0, BAD);
        }));
        holds("NULL (the BOOK)", "no BOOK", () -> unchanged(BooksSuite::shelf, x -> refusesPut(x, 1, LONGS, 0, 0, NULL)));
        holds("CAST", "of another SORT, though the number would fit", () -> unchanged(BooksSuite::shelf, x -> {
            for (int sort = BYTES; sort < LONGS; sort++) refusesPut(x, 0, sort, 0, 0, CAST);
        }));
        holds("INDEX (the ROW)", "the next on either side, and far beyond", () -> unchanged(BooksSuite::shelf, x -> {
            for (int r : new int[] {-1, 4, LOW, HIGH}) refusesPut(x, 0, LONGS, r, 0, INDEX);
        }));
        holds("INDEX (the ROW)", "a BOOK of no ROWS", () -> {
            refusesPut(shelved(new LadderCalls()), 0, LONGS, 0, 0, INDEX);
        });
        holds("NULL (the ROW is MISSING)", "any number of it", () -> unchanged(BooksSuite::shelf, x -> {
            for (int i : new int[] {0, 7}) refusesPut(x, 0, LONGS, 1, i, NULL);
        }));
        holds("INDEX (the number)", "the next on either side, and far beyond", () -> unchanged(BooksSuite::shelf, x -> {
            for (int i : new int[] {-1, 3, 8, LOW, HIGH}) refusesPut(x, 0, LONGS, 0, i, INDEX);
            for (int i : new int[] {-1, 8}) refusesPut(x, 0, LONGS, 3, i, INDEX);
        }));
        holds("INDEX (the number)", "a ROW of no numbers", () -> unchanged(BooksSuite::shelf, x -> {
            for (int i : new int[] {-1, 0, 1}) refusesPut(x, 0, LONGS, 2, i, INDEX);
        }));
    }

    private void putOrder() {
        holds("BAD; NULL (the BOOK)", "BAD ahead of all", () -> {
            refusesPut(shelf(), 1, 4, 4, 9, BAD);
            refusesPut(shelf(), 0, 4, 4, 9, BAD);
            refusesPut(shelf(), 3, INTS, 4, 9, BAD);
        });
        holds("NULL (the BOOK); CAST", "no BOOK: it is of no SORT, and has no ROW", () -> refusesPut(shelf(), 1, INTS, 4, 9, NULL));
        holds("CAST; INDEX (the ROW)", "another SORT, no such ROW", () -> refusesPut(shelf(), 0, INTS, 4, 9, CAST));
        holds("CAST ... NULL (the ROW is MISSING)", "another SORT, a ROW that is MISSING", () -> refusesPut(shelf(), 0, INTS, 1, 9, CAST));
        holds("CAST ... INDEX (the number)", "another SORT, no such number", () -> refusesPut(shelf(), 0, INTS, 0, 9, CAST));
        holds("NULL (the ROW is MISSING); INDEX (the number)", "no such number of what is MISSING", () -> {
            for (int i : new int[] {-1, 8, HIGH}) refusesPut(shelf(), 0, LONGS, 1, i, NULL);
        });
    }

    private void item() {
        section("Promise 25");
        holds("The number of a ROW, taken as of a SORT", "the first, the last, none put yet", () -> {
            due("the first", shelf().item(0, LONGS, 3, 0), 1);
            due("the last", shelf().item(0, LONGS, 3, 7), 8);
            due("none put yet", of(BYTES, 1).item(0, BYTES, 0, 0), 0);
        });
        holds("The number of a ROW, taken as of a SORT", "the largest, the smallest", () -> {
            LadderCalls x = shelved(new LadderCalls(), numbers(Long.MAX_VALUE, Long.MIN_VALUE));
            due("the largest", x.item(0, LONGS, 0, 0), Long.MAX_VALUE, x.status(), 0);
            due("the smallest", x.item(0, LONGS, 0, 1), Long.MIN_VALUE, x.status(), 0);
        });
        holds("0, with status()", "a number that is 0 is not refused", () -> {
            LadderCalls x = of(INTS, 1);
            x.item(0, LONGS, 0, 0);
            due("status() of one refused", x.status(), CAST);
            due("of one that is 0", x.item(0, INTS, 0, 0), 0, x.status(), 0);
        });
    }

    private void refusesItem(int book, int sort, int r, int i, int why) {
        unchanged(BooksSuite::shelf, x -> {
            due("item " + book + " " + sort + " " + r + " " + i, x.item(book, sort, r, i), 0, x.status(), why);
        });
    }

    private void itemRefused() {
        holds("0, with status(): refused as put()", "BAD, ahead of all", () -> {
            refusesItem(-1, LONGS, 0, 0, BAD);
            refusesItem(3, INTS, 4, 9, BAD);
            refusesItem(0, -1, 0, 0, BAD);
            refusesItem(1, 4, 4, 9, BAD);
        });
        holds("refused as put()", "NULL (the BOOK), ahead of CAST", () -> {
            refusesItem(1, LONGS, 0, 0, NULL);
            refusesItem(2, INTS, 4, 9, NULL);
        });
        holds("refused as put()", "CAST, ahead of INDEX and of NULL (the ROW)", () -> {
            refusesItem(0, INTS, 0, 0, CAST);
            refusesItem(0, INTS, 4, 9, CAST);
            refusesItem(0, INTS, 1, 9, CAST);
            refusesItem(0, INTS, 0, 9, CAST);
        });
        holds("refused as put()", "INDEX (the ROW)", () -> {
            for (int r : new int[] {-1, 4, LOW, HIGH}) refusesItem(0, LONGS, r, 9, INDEX);
        });
        holds("refused as put()", "NULL (the ROW is MISSING), ahead of INDEX (the number)", () -> {
            for (int i : new int[] {0, -1, 8}) refusesItem(0, LONGS, 1, i, NULL);
        });
        holds("refused as put()", "INDEX (the number)", () -> {
            for (int i : new int[] {-1, 3, 8, LOW, HIGH}) refusesItem(0, LONGS, 0, i, INDEX);
            refusesItem(0, LONGS, 2, 0, INDEX);
            refusesItem(0, LONGS, 3, 8, INDEX);
        });
    }

    // ---- roads

    private void comes(LadderCalls x, int came, int status) {
        int roads = x.about(1);
        due("roads()", x.roads(0), came, x.status(), status);
        due("ROADS more", x.about(1) - roads, came);
    }

    private void roads() {
        section("Promise 26");
        holds("Each ROW of a BOOK becomes a ROAD by its first three numbers (both PLACES, the length)", "one, four", () -> {
            LadderCalls x = shelved(town(3), numbers(2, 0, 7));
            comes(x, 1, 0);
            due("it joins", x.apart(0, 2), 7);
            LadderCalls y = shelved(town(4), numbers(0, 1, 100), numbers(1, 2, 1), numbers(2, 3, 50), numbers(0, 1, 99));
            comes(y, 4, 0);
            due("all of them", y.apart(0, 3), 99 + 1 + 50);
        });
        holds("by its first three numbers", "what is behind them is free", () -> {
            LadderCalls x = shelved(town(2), numbers(0, 1, 7, -1, BEYOND, 101, 0, 0));
            comes(x, 1, 0);
            due("how long", x.apart(0, 1), 7);
        });
        holds("in order: how many came", "a BOOK of no ROWS", () -> {
            comes(shelved(town(2)), 0, 0);
        });
        holds("in order: how many came", "a BOOK of each SORT, at each number", () -> {
            for (int sort = 0; sort < 4; sort++) {
                LadderCalls x = town(2);
                int b = sort % 3;
                x.book(b, sort, 1);
                x.row(b, 0, 3);
                x.put(b, sort, 0, 1, 1);
                x.put(b, sort, 0, 2, 100);
                due("of SORT " + sort, x.roads(b), 1, x.status(), 0);
                due("how long", x.apart(0, 1), 100);
            }
        });
        holds("in order", "the fifteenth and no more", () -> {
            LadderCalls x = shelved(fourteen(), numbers(0, 1, 40), numbers(0, 1, 30));
            comes(x, 1, FULL);
            due("the first of them came", x.apart(0, 1), 40);
        });
    }

    private static LadderCalls fourteen() {
        LadderCalls x = town(2);
        for (int i = 0; i < 14; i++) x.road(0, 1, 50);
        return x;
    }

    /** Two ROWS that are in order, then one that is not, then one that is. */
    private void endsBehindTwo(long[] third, int status) {
        LadderCalls x = shelved(town(3), numbers(0, 1, 5), numbers(1, 2, 5), third, numbers(0, 1, 1));
        comes(x, 2, status);
        due("those ahead came, the one behind did not", x.apart(0, 2), 10);
    }

    private void roadsEndByFindings() {
        holds("It ends, with those ahead, and tells so by status(): NULL (no BOOK", "none at all, at another number", () -> {
            unchanged(() -> town(2), x -> comes(x, 0, NULL));
            unchanged(() -> shelved(town(2), numbers(0, 1, 5)), x -> due("BOOK 1", x.roads(1), 0, x.status(), NULL));
        });
        holds("a ROW is MISSING)", "the third, the first, all", () -> {
            endsBehindTwo(null, NULL);
            unchanged(() -> shelved(town(2), null, numbers(0, 1, 5)), x -> comes(x, 0, NULL));
            unchanged(() -> shelved(town(2), null, null, null, null), x -> comes(x, 0, NULL));
        });
        holds("INDEX (fewer than three numbers)", "two, one, none", () -> {
            endsBehindTwo(numbers(0, 1), INDEX);
            endsBehindTwo(numbers(0), INDEX);
            endsBehindTwo(numbers(), INDEX);
        });
        holds("INDEX (fewer than three numbers)", "two that are no PLACES", () -> endsBehindTwo(numbers(-1, BEYOND), INDEX));
    }

    private void roadsEndAsRoad() {
        holds("BAD ... as road()", "no PLACE, to itself, no length", () -> {
            endsBehindTwo(numbers(-1, 1, 5), BAD);
            endsBehindTwo(numbers(0, 3, 5), BAD);
            endsBehindTwo(numbers(1, 1, 5), BAD);
            endsBehindTwo(numbers(0, 1, 0), BAD);
            endsBehindTwo(numbers(0, 1, 101), BAD);
            endsBehindTwo(numbers(0, 1, -1), BAD);
        });
        holds("a number beyond an int is BAD", "each of the three, though a cast would make it one", () -> {
            endsBehindTwo(numbers(BEYOND, 1, 5), BAD);
            endsBehindTwo(numbers(0, BEYOND + 1, 5), BAD);
            endsBehindTwo(numbers(0, 1, BEYOND + 5), BAD);
            endsBehindTwo(numbers(-BEYOND, 1, 5), BAD);
            endsBehindTwo(numbers(0, 1 - BEYOND, 5), BAD);
            endsBehindTwo(numbers(0, 1, 5 - BEYOND), BAD);
        });
        holds("a number beyond an int is BAD", "the largest and the smallest, of an int and of a long", () -> {
            for (long v : numbers(HIGH, LOW, HIGH + 1L, LOW - 1L, Long.MAX_VALUE, Long.MIN_VALUE)) {
                endsBehindTwo(numbers(v, 1, 5), BAD);
                endsBehindTwo(numbers(0, v, 5), BAD);
                endsBehindTwo(numbers(0, 1, v), BAD);
            }
        });
        holds("STATE", "there are LADDERS", () -> {
            unchanged(() -> day(shelved(line(), numbers(0, 1, 1)), NEAR, 1, 0), x -> comes(x, 0, STATE));
        });
        holds("FULL (as road()", "fifteen ROADS", () -> {
            unchanged(() -> {
                LadderCalls x = shelved(fourteen(), numbers(0, 1, 1));
                x.road(0, 1, 50);
                return x;
            }, x -> comes(x, 0, FULL));
        });
        holds("BAD: the BOOK's number", "the next on either side, and far beyond", () -> {
            unchanged(() -> shelved(town(2), numbers(0, 1, 5)), x -> {
                for (int b : new int[] {-1, 3, LOW, HIGH}) due("roads " + b, x.roads(b), BAD, x.status(), BAD);
            });
        });
    }

    private void roadsOrder() {
        holds("BAD, STATE", "BAD ahead of STATE", () -> {
            comes(day(shelved(line(), numbers(0, 0, 1)), NEAR, 1, 0), 0, BAD);
            comes(day(shelved(line(), numbers(0, 1, BEYOND + 1)), NEAR, 1, 0), 0, BAD);
        });
        holds("STATE, FULL", "STATE ahead of FULL", () -> {
            LadderCalls x = shelved(fourteen(), numbers(0, 1, 1));
            x.road(0, 1, 50);
            comes(day(x, NEAR, 1, 0), 0, STATE);
        });
        holds("BAD ... FULL", "BAD ahead of FULL", () -> {
            LadderCalls x = shelved(fourteen(), numbers(0, 2, 1));
            x.road(0, 1, 50);
            comes(x, 0, BAD);
        });
        holds("NULL (no BOOK, a ROW is MISSING), INDEX (fewer than three numbers), BAD, STATE", "FINDINGS of a ROW by day", () -> {
            comes(day(shelved(line(), (long[]) null), NEAR, 1, 0), 0, NULL);
            comes(day(shelved(line(), numbers(0, 1)), NEAR, 1, 0), 0, INDEX);
        });
    }

    // ---- calls

    private void come(LadderCalls x, int r, int came, int status) {
        int calls = x.about(3);
        due("calls()", x.calls(0, r), came, x.status(), status);
        due("CALLS more", x.about(3) - calls, came);
    }

    private void calls() {
        section("Promise 27");
        holds("CALLS come from a ROW, number by number: how many came", "one, eight", () -> {
            LadderCalls x = shelved(lineDay(), numbers(2), numbers(1, 2, 0, 3, 1, 2, 0, 3));
            come(x, 0, 1, 0);
            due("its PLACE", x.told(0, 0), 2);
            come(x, 1, 8, 0);
            int[] places = {2, 1, 2, 0, 3, 1, 2, 0, 3};
            for (int i = 0; i < 9; i++) due("PLACE of CALL " + i, x.told(i, 0), places[i]);
        });
        holds("CALLS come from a ROW", "they are SERVED, by the RULE", () -> {
            LadderCalls x = shelved(day(line(), TURN, 2, 0), numbers(1, 2));
            come(x, 0, 2, 0);
            due("where they stand", x.stand(), stand(1, 2));
            due("THE COST", x.cost(-1), 10);
            due("THE TRACE", x.trace(), 200);
        });
        holds("how many came", "a ROW of no numbers", () -> {
            come(shelved(lineDay(), numbers()), 0, 0, 0);
            come(shelved(fullDay(), numbers()), 0, 0, 0);
            come(shelved(line(), numbers()), 0, 0, 0);
        });
        holds("CALLS come from a ROW", "of each SORT, of each BOOK, the first and the last ROW", () -> {
            for (int sort = 0; sort < 4; sort++) {
                LadderCalls x = lineDay();
                int b = sort % 3;
                x.book(b, sort, 4);
                for (int r = 0; r < 4; r += 3) {
                    x.row(b, r, 1);
                    x.put(b, sort, r, 0, 3);
                    due("of SORT " + sort, x.calls(b, r), 1, x.status(), 0);
                }
                due("they came", x.about(3), 2);
            }
        });
    }

    /** Two numbers that are PLACES, then one that is not, then one that is. */
    private void endsAtThird(long third) {
        LadderCalls x = shelved(lineDay(), numbers(1, 2, third, 0));
        come(x, 0, 2, BAD);
        due("those ahead came, the one behind did not", x.stand(), stand(1, 2));
    }

    private void callsEndByFindings() {
        holds("It ends likewise: NULL", "no BOOK, a ROW that is MISSING", () -> {
            unchanged(Suite::lineDay, x -> come(x, 0, 0, NULL));
            unchanged(() -> shelved(lineDay(), numbers(1)), x -> due("BOOK 1", x.calls(1, 0), 0, x.status(), NULL));
            unchanged(() -> shelved(lineDay(), numbers(1), null), x -> come(x, 1, 0, NULL));
        });
        holds("INDEX (no such ROW)", "the next on either side, and far beyond", () -> {
            unchanged(() -> shelved(lineDay(), numbers(1), numbers(2)), x -> {
                for (int r : new int[] {-1, 2, 4, LOW, HIGH}) come(x, r, 0, INDEX);
            });
        });
        holds("INDEX (no such ROW)", "a BOOK of no ROWS", () -> come(shelved(lineDay()), 0, 0, INDEX));
    }

    private void callsEndAsCall() {
        holds("BAD", "a number that is no PLACE", () -> {
            for (long v : numbers(-1, 4, 6, 8, -128, 127)) endsAtThird(v);
        });
        holds("BAD ... (as call())", "a number beyond an int, though a cast would make it one", () -> {
            for (long v : numbers(BEYOND, BEYOND + 1, -BEYOND, 1 - BEYOND)) endsAtThird(v);
        });
        holds("BAD ... (as call())", "the largest and the smallest, of an int and of a long", () -> {
            for (long v : numbers(HIGH, LOW, HIGH + 1L, LOW - 1L, Long.MAX_VALUE, Long.MIN_VALUE)) endsAtThird(v);
        });
        holds("STATE", "there are no LADDERS", () -> {
            unchanged(() -> shelved(line(), numbers(1)), x -> come(x, 0, 0, STATE));
        });
        holds("FULL (as call())", "the twelfth comes, and no more", () -> {
            LadderCalls x = shelved(called(lineDay(), 1, 1, 1, 1, 1, 1, 1, 1, 1, 1), numbers(2, 1, 2, 1));
            come(x, 0, 2, FULL);
            due("the twelfth", x.told(11, 0), 1);
        });
        holds("FULL (as call())", "twelve CALLS", () -> {
            unchanged(() -> shelved(fullDay(), numbers(1)), x -> come(x, 0, 0, FULL));
        });
        holds("BAD: the BOOK's number", "the next on either side, and far beyond", () -> {
            unchanged(() -> shelved(lineDay(), numbers(1)), x -> {
                for (int b : new int[] {-1, 3, LOW, HIGH}) due("calls " + b, x.calls(b, 0), BAD, x.status(), BAD);
            });
        });
    }

    private void callsOrder() {
        holds("BAD: the BOOK's number", "ahead of INDEX", () -> {
            LadderCalls x = shelved(lineDay(), numbers(1));
            due("no such ROW", x.calls(3, 4), BAD, x.status(), BAD);
        });
        holds("NULL, INDEX (no such ROW)", "no BOOK: NULL ahead of INDEX", () -> come(lineDay(), -1, 0, NULL));
        holds("INDEX (no such ROW), BAD, STATE", "FINDINGS by no LADDERS", () -> {
            come(shelved(line(), (long[]) null), 1, 0, INDEX);
            come(shelved(line(), (long[]) null), 0, 0, NULL);
        });
        holds("BAD, STATE", "BAD ahead of STATE", () -> {
            come(shelved(line(), numbers(4)), 0, 0, BAD);
            come(shelved(line(), numbers(BEYOND)), 0, 0, BAD);
        });
        holds("BAD ... FULL", "BAD ahead of FULL", () -> {
            come(shelved(fullDay(), numbers(4)), 0, 0, BAD);
            come(shelved(fullDay(), numbers(BEYOND)), 0, 0, BAD);
        });
    }
}
