/**
 * All that an object tells, but for status(): what is, what the BOOKS hold, whom each RULE would send,
 * and what back() brings again. It changes the object, and keeps within the calls that one is good for.
 */
final class Picture {
    private final LadderCalls x;
    private final StringBuilder text = new StringBuilder();

    private Picture(LadderCalls x) {
        this.x = x;
    }

    static String of(LadderCalls x) {
        Picture picture = new Picture(x);
        picture.places();
        picture.calls();
        picture.books();
        picture.rules();
        picture.past();
        return picture.text.toString();
    }

    private void add(String name, long number) {
        text.append(name).append(' ').append(number).append(", ");
    }

    private void places() {
        for (int what = 0; what < 6; what++) add("about", x.about(what));
        add("trace", x.trace());
        int places = x.about(0);
        for (int a = 0; a < places; a++) {
            for (int b = 0; b < a; b++) add("apart", x.apart(a, b));
        }
        text.append('\n');
    }

    private void calls() {
        int calls = x.about(3);
        for (int i = 0; i < calls; i++) {
            for (int what = 0; what < 4; what++) add("told", x.told(i, what));
            add("plan", x.plan(calls, i));
        }
        for (int ladder = -1; ladder < 3; ladder++) add("cost", x.cost(ladder));
        for (int n = 0; n <= calls; n++) add("least", x.least(n));
        add("work", x.work(calls, 0));
        add("work of the beginning", x.work(0, 0));
        text.append('\n');
    }

    private void books() {
        for (int book = 0; book < 3; book++) {
            for (int sort = 0; sort < 4; sort++) {
                // no BOOK has a fifth ROW: INDEX tells that there is one, and that it is of this SORT
                x.item(book, sort, 4, 0);
                if (x.status() != LadderCalls.INDEX) continue;
                add("book", book);
                add("sort", sort);
                for (int r = 0; r < 4; r++) row(book, sort, r);
            }
        }
        text.append('\n');
    }

    private void row(int book, int sort, int r) {
        for (int i = 0; i < 9; i++) {
            long item = x.item(book, sort, r, i);
            add("item", item);
            int status = x.status();
            if (status != 0) {
                add("status", status);
                return;
            }
        }
    }

    private void rules() {
        int was = x.about(4);
        int places = x.about(0);
        for (int kind = 0; kind < 4; kind++) {
            x.rule(kind);
            for (int place = 0; place < places; place++) add("ask", x.ask(place));
        }
        x.rule(was);
        text.append('\n');
    }

    private void past() {
        for (int left = x.about(3); left > 0; left--) {
            add("stand", x.stand());
            add("left", x.back());
        }
        add("cost", x.cost(-1));
        add("end", x.end());
        add("place", x.place());
    }
}
