import java.util.function.Consumer;
import java.util.function.Supplier;

/** A group of tests, each of which names the sentence of the document that it holds. */
abstract class Suite {
    static final int BAD = -1, STATE = -2, FULL = -3, NONE = -9, NULL = -11, INDEX = -12, CAST = -13, SIZE = -15;
    static final int NEAR = 0, EVEN = 1, TURN = 2, AHEAD = 3;
    static final int BYTES = 0, SHORTS = 1, INTS = 2, LONGS = 3;
    static final int LOW = Integer.MIN_VALUE, HIGH = Integer.MAX_VALUE;
    /** A number that an int can't hold, and of which a cast to an int leaves 0. */
    static final long BEYOND = 1L << 32;

    private final Check check;
    private final Doc doc;
    private String section = "";
    private String test = "";
    private int tests = 0;

    Suite(Check check, Doc doc) {
        this.check = check;
        this.doc = doc;
    }

    abstract void all();

    final int tests() {
        return tests;
    }

    final void section(String name) {
        section = name;
    }

    /** One test: the sentence as the document says it, the case of it, and what shows that it holds. */
    final void holds(String sentence, String which, Runnable shows) {
        tests++;
        test = section + ", \"" + sentence + "\", " + which;
        if (!doc.hold(section, sentence)) check.due(test + ": the document's own words", 0, 1);
        try {
            shows.run();
        } catch (RuntimeException e) {
            check.due(test + ": threw " + e, 1, 0);
        }
    }

    final void due(String what, long got, long want) {
        check.due(test + ": " + what, got, want);
    }

    /** An answer of item(), roads() or calls(), and the status() that goes with it. */
    final void due(String what, long got, long want, int status, int wantStatus) {
        due(what, got, want);
        due(what + ", status()", status, wantStatus);
    }

    /** What is refused leaves an object such as one that has never been asked for it. */
    final void unchanged(Supplier<LadderCalls> maker, Consumer<LadderCalls> refused) {
        LadderCalls asked = maker.get();
        refused.accept(asked);
        check.due(test + ": nothing changes", Picture.of(asked), Picture.of(maker.get()));
    }

    // ---- towns, days and books to begin with

    /** PLACES, and ROADS by threes of numbers. */
    static LadderCalls town(int places, int... roads) {
        LadderCalls x = new LadderCalls();
        for (int i = 0; i < places; i++) x.place();
        for (int i = 0; i + 2 < roads.length; i += 3) x.road(roads[i], roads[i + 1], roads[i + 2]);
        return x;
    }

    /** PLACES in a row, all ROADS of one length. */
    static LadderCalls chain(int places, int length) {
        LadderCalls x = town(places);
        for (int i = 1; i < places; i++) x.road(i - 1, i, length);
        return x;
    }

    /** 0 -3- 1 -4- 2 -2- 3, and a detour of 20 from 0 to 3. */
    static LadderCalls line() {
        return town(4, 0, 1, 3, 1, 2, 4, 2, 3, 2, 0, 3, 20);
    }

    /** LADDERS at both ends of line(). */
    static LadderCalls lineDay() {
        return day(line(), NEAR, 2, stand(0, 3));
    }

    /** 0 -1- 1 -3- 2, LADDERS at 0 and 2: NEAR always sends the first one between 0 and 1. */
    static LadderCalls seesaw(int kind) {
        return day(town(3, 0, 1, 1, 1, 2, 3), kind, 2, stand(0, 2));
    }

    static LadderCalls day(LadderCalls x, int kind, int ladders, int stand) {
        x.rule(kind);
        x.begin(ladders, stand);
        return x;
    }

    /** lineDay() with as many CALLS as there may be, all of PLACE 1. */
    static LadderCalls fullDay() {
        return called(lineDay(), 1, 1, 1, 1, 1, 1, 1, 1, 1, 1, 1, 1);
    }

    static LadderCalls called(LadderCalls x, int... places) {
        for (int place : places) x.call(place);
        return x;
    }

    /** The number of a STAND, by the PLACES of its LADDERS. */
    static int stand(int... places) {
        int number = 0;
        for (int i = places.length - 1; i >= 0; i--) number = number * 8 + places[i];
        return number;
    }

    /** BOOK 0, of LONGS, gets one ROW more of some numbers; the others are as they were. */
    static void fill(LadderCalls x, int r, long... numbers) {
        x.row(0, r, numbers.length);
        for (int i = 0; i < numbers.length; i++) x.put(0, LONGS, r, i, numbers[i]);
    }

    /** BOOK 0, of LONGS, with a ROW for each row of numbers; null: it is MISSING. */
    static LadderCalls shelved(LadderCalls x, long[]... rows) {
        x.book(0, LONGS, rows.length);
        for (int r = 0; r < rows.length; r++) {
            if (rows[r] != null) fill(x, r, rows[r]);
        }
        return x;
    }

    static long[] numbers(long... numbers) {
        return numbers;
    }
}
