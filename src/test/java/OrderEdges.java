/** Promises 8 to 15, sentence by sentence. */
final class OrderEdges extends Edges {

    static void addTo(Sentences all) {
        String noPage = "Throws `IndexOutOfBoundsException` if there is no such page";
        String noBox = "Throws `IndexOutOfBoundsException` if there is no such box, or it is gone";

        all.add("Promise 8", "Returns which box is read at a place of a page.", due -> readsAt(due, Run::order));
        all.add("Promise 8", "`page`: 0 to 4", due -> placePage(due, Run::order));
        all.add("Promise 8", "`place`: from 0", due -> placeFrom(due, Run::order));
        all.add("Promise 8", "Returns the box; NONE if there are not so many.", due -> placeNone(due, Run::order));
        all.add("Promise 8", noPage + ", or place is below 0", due -> placeRefused(due, Run::order));

        all.add("Promise 9", "Returns the same, with sets that are still to be cut put aside one upon the other.",
                OrderEdges::anewReadsTheSame);
        all.add("Promise 9", "`page`: 0 to 4", due -> placePage(due, Run::orderAnew));
        all.add("Promise 9", "`place`: from 0", due -> placeFrom(due, Run::orderAnew));
        all.add("Promise 9", "Returns the box; NONE if there are not so many.", due -> placeNone(due, Run::orderAnew));
        all.add("Promise 9", noPage + ", or place is below 0", due -> placeRefused(due, Run::orderAnew));

        all.add("Promise 10", "Returns at which place of its page a box is read.", OrderEdges::placeOfOwnPage);
        all.add("Promise 10", "`box`: its number", OrderEdges::placeOfNumber);
        all.add("Promise 10", "Returns the place.", OrderEdges::placeOfPlace);
        all.add("Promise 10", noBox, due -> refusesNoBox(due, "placeOf", Run::placeOf));

        all.add("Promise 11", "Returns how many boxes a page has.", OrderEdges::boxesOfPage);
        all.add("Promise 11", "`page`: 0 to 4", OrderEdges::boxesPage);
        all.add("Promise 11", "Returns how many.", OrderEdges::boxesCount);
        all.add("Promise 11", noPage, due -> refusesNoPage(due, "boxes", Run::boxes));

        all.add("Promise 12", "Tells of a box.", OrderEdges::aboutTells);
        all.add("Promise 12", "`box`: its number", OrderEdges::aboutNumber);
        all.add("Promise 12", "`what`: 0 its page, 1 its left edge, 2 its top edge, 3 its width, 4 its height, 5 its kind,"
                + " 6 the box that it follows, NONE, 7 the box that it leads, NONE, 8 whether it is gone, 1 or 0;"
                + " NONE for 6 and 7 of one that is gone, the others as they were", OrderEdges::aboutWhat);
        all.add("Promise 12", "Returns as told.", OrderEdges::aboutAsTold);
        all.add("Promise 12", "Throws `IndexOutOfBoundsException` if there is no such box", OrderEdges::aboutNoBox);
        all.add("Promise 12", "Throws `IllegalArgumentException` if what is out of range", OrderEdges::aboutNothing);

        all.add("Promise 13", "Returns the way of a page.", OrderEdges::wayOfPage);
        all.add("Promise 13", "`page`: 0 to 4", OrderEdges::wayPage);
        all.add("Promise 13", "Returns how far it is; 0 with fewer than two boxes.", OrderEdges::wayFar);
        all.add("Promise 13", noPage, due -> refusesNoPage(due, "way", Run::way));

        all.add("Promise 14", "Tells the faults of a box.", OrderEdges::faultsTell);
        all.add("Promise 14", "`box`: its number", OrderEdges::faultsNumber);
        all.add("Promise 14", "Returns the bits, together; 0 without a fault.", OrderEdges::faultsTogether);
        all.add("Promise 14", noBox, due -> refusesNoBox(due, "faults", Run::faults));

        all.add("Promise 15", "Counts the boxes of a page that have a fault.", OrderEdges::faultyCounts);
        all.add("Promise 15", "`page`: 0 to 4", OrderEdges::faultyPage);
        all.add("Promise 15", "Returns how many.", OrderEdges::faultyMany);
        all.add("Promise 15", noPage, due -> refusesNoPage(due, "faulty", Run::faulty));
    }

    // Promises 8 and 9

    private static void readsAt(Due due, OnPair read) {
        Run x = column(3, 4);
        x.move(0, 10, 40);
        x.tie(3, 1);
        x.box(2, 0, 0, 1, 1, TEXT);
        int[] want = {2, 3, 1, 0};
        for (int place = 0; place < want.length; place++) {
            due.is("at place " + place, want[place], read.on(x, 3, place));
        }
        x.remove(3);
        due.is("at place 0, when one is gone", 1, read.on(x, 3, 0));
        due.is("on another page", 4, read.on(x, 2, 0));
        Run y = column(0, 24);
        for (int place = 0; place < 24; place++) {
            due.is("of 24, at place " + place, place, read.on(y, 0, place));
        }
    }

    private static void placePage(Due due, OnPair read) {
        Run x = pages();
        for (int page = 0; page <= 4; page++) {
            due.is("the first of page " + page, firstOf(page), read.on(x, page, 0));
            due.is("the last of page " + page, firstOf(page) + page, read.on(x, page, page));
            due.is("behind the last of page " + page, NONE, read.on(x, page, page + 1));
        }
        refuses(due, "a place", INDEX, x, (r, page) -> read.on(r, page, 0), -1, 5);
    }

    private static void placeFrom(Due due, OnPair read) {
        Run x = column(1, 2);
        due.is("place 0", 0, read.on(x, 1, 0));
        due.is("place 1", 1, read.on(x, 1, 1));
        due.is("place 0 of a page without boxes", NONE, read.on(x, 0, 0));
        refuses(due, "place", INDEX, x, (r, place) -> read.on(r, 1, place), -1);
        refuses(due, "place of a page without boxes", INDEX, x, (r, place) -> read.on(r, 0, place), -1);
        refuses(due, "place on a new object", INDEX, new Run(), (r, place) -> read.on(r, 0, place), -1);
    }

    private static void placeNone(Due due, OnPair read) {
        for (int count : new int[] {0, 1, 2, 23, 24}) {
            Run x = column(1, count);
            if (count > 0) {
                due.is("the last of " + count, count - 1, read.on(x, 1, count - 1));
            }
            for (int place : new int[] {count, count + 1, 24, 25, MAX - 1, MAX}) {
                due.is("of " + count + ", at place " + place, NONE, read.on(x, 1, place));
            }
        }
        Run y = column(1, 3);
        y.remove(2);
        due.is("where the one was that is gone", NONE, read.on(y, 1, 2));
    }

    private static void placeRefused(Due due, OnPair read) {
        refusesNoPage(due, "place 0 of the page", (r, page) -> read.on(r, page, 0));
        refuses(due, "place", INDEX, column(1, 24), (r, place) -> read.on(r, 1, place), -1, -2, -24, MIN, MIN + 1);
        refuses(due, "page and place", INDEX, column(1, 2), read, new int[][] {{-1, -1}, {5, MIN}, {MIN, 0}, {MAX, MAX}});
    }

    private static void anewIs(Due due, String what, String want, Run x, int page) {
        due.are(what, want, Look.readingAnew(x, page));
        due.are(what + ", by order", want, Look.reading(x, page));
    }

    private static void anewReadsTheSame(Due due) {
        readsAt(due, Run::orderAnew);
        Run inner = new Run();
        Run outer = new Run();
        int left = 0;
        int top = 0;
        int right = 60;
        int bottom = 80;
        // Of a frame in a frame each side is cut off alone: the last ones first, or the first ones.
        for (int n = 0; n < 24; n++) {
            boolean across = n % 2 == 0;
            inner.box(4, 0, across ? bottom - 2 : 0, across ? right : 2, across ? 2 : bottom, TEXT);
            if (!across) {
                inner.move(n, right - 2, 0);
            }
            bottom -= across ? 2 : 0;
            right -= across ? 0 : 2;
            outer.box(4, left, top, across ? 60 - left : 2, across ? 2 : 80 - top, TEXT);
            top += across ? 2 : 0;
            left += across ? 0 : 2;
        }
        anewIs(due, "24 sets put aside", numbers(23, 0), inner, 4);
        anewIs(due, "one set put aside, 23 times", numbers(0, 23), outer, 4);
        anewIs(due, "a column", numbers(0, 23), column(4, 24), 4);
        Run chain = column(4, 24);
        for (int n = 23; n > 0; n--) {
            chain.tie(n, n - 1);
        }
        anewIs(due, "a chain", numbers(23, 0), chain, 4);
        chain.untie(11);
        anewIs(due, "two chains", numbers(11, 0) + " " + numbers(23, 12), chain, 4);
        Run x = column(4, 3);
        x.orderAnew(4, 0);
        x.move(0, 10, 40);
        anewIs(due, "after a move", "1 2 0", x, 4);
    }

    // Promise 10

    private static void placeOfOwnPage(Due due) {
        Run x = pages();
        for (int page = 0; page < 5; page++) {
            for (int place = 0; place <= page; place++) {
                due.is("placeOf(" + (firstOf(page) + place) + ")", place, x.placeOf(firstOf(page) + place));
            }
        }
    }

    private static void placeOfNumber(Due due) {
        Run x = column(1, 24);
        x.move(0, 10, 78);
        due.is("placeOf(0), read last", 23, x.placeOf(0));
        due.is("placeOf(1), read first", 0, x.placeOf(1));
        due.is("placeOf(23)", 22, x.placeOf(23));
        refuses(due, "placeOf", INDEX, x, Run::placeOf, -1, 24);
        refuses(due, "placeOf with three boxes", INDEX, column(1, 3), Run::placeOf, 3);
    }

    private static void placeOfPlace(Due due) {
        Run x = column(1, 4);
        x.tie(3, 0);
        int[] want = {3, 0, 1, 2};
        for (int box = 0; box < 4; box++) {
            due.is("placeOf(" + box + ")", want[box], x.placeOf(box));
            due.is("what is read there", box, x.order(1, x.placeOf(box)));
        }
        x.remove(1);
        due.is("placeOf(2), when the first one is gone", 0, x.placeOf(2));
        due.is("placeOf(0), when the first one is gone", 2, x.placeOf(0));
        due.is("the only one", 0, column(1, 1).placeOf(0));
    }

    // Promise 11

    private static void boxesOfPage(Due due) {
        Run x = column(2, 3);
        x.box(3, 0, 0, 1, 1, TEXT);
        x.tie(0, 1);
        due.is("with a tie", 3, x.boxes(2));
        x.move(1, 0, 78);
        x.resize(1, 60, 2);
        due.is("after a move and another size", 3, x.boxes(2));
        x.remove(0);
        due.is("one gone", 2, x.boxes(2));
        due.is("another page", 1, x.boxes(3));
    }

    private static void boxesPage(Due due) {
        Run x = pages();
        for (int page = 0; page <= 4; page++) {
            due.is("boxes(" + page + ")", page + 1, x.boxes(page));
        }
        refuses(due, "boxes", INDEX, x, Run::boxes, -1, 5);
    }

    private static void boxesCount(Due due) {
        for (int count : new int[] {0, 1, 23, 24}) {
            due.is("boxes of " + count, count, column(4, count).boxes(4));
        }
        Run x = column(4, 2);
        x.remove(0);
        x.remove(1);
        due.is("all gone", 0, x.boxes(4));
    }

    // Promise 12

    private static void aboutTells(Due due) {
        Run x = column(4, 23);
        x.box(3, 58, 77, 2, 3, HEAD_3);
        int[] want = {3, 58, 77, 2, 3, HEAD_3, NONE, NONE, 0};
        for (int what = 0; what < want.length; what++) {
            due.is("about(23, " + what + ")", want[what], x.about(23, what));
        }
        x.move(23, 0, 1);
        x.resize(23, 59, 78);
        int[] now = {3, 0, 1, 59, 78, HEAD_3, NONE, NONE, 0};
        for (int what = 0; what < now.length; what++) {
            due.is("about(23, " + what + "), moved and made larger", now[what], x.about(23, what));
        }
    }

    private static void aboutNumber(Due due) {
        Run x = column(4, 24);
        for (int box = 0; box < 24; box++) {
            due.is("about(" + box + ", 2)", 3 * box, x.about(box, 2));
        }
        refuses(due, "about", INDEX, x, (r, box) -> r.about(box, 2), -1, 24);
        Run y = column(4, 3);
        y.remove(2);
        due.is("the last one, that is gone", 6, y.about(2, 2));
        refuses(due, "about with three boxes", INDEX, y, (r, box) -> r.about(box, 2), 3);
    }

    private static void aboutWhat(Due due) {
        Run x = new Run();
        x.box(3, 11, 12, 13, 14, NOTE);
        x.box(3, 21, 32, 23, 24, ITEM);
        x.box(3, 31, 62, 29, 18, HEAD_1);
        int[] free = {3, 21, 32, 23, 24, ITEM, NONE, NONE, 0};
        whatIs(due, "without a tie", x, free);
        x.tie(2, 1);
        x.tie(1, 0);
        int[] tied = {3, 21, 32, 23, 24, ITEM, 2, 0, 0};
        whatIs(due, "tied", x, tied);
        due.is("the first of a chain follows", NONE, x.about(2, 6));
        due.is("the first of a chain leads", 1, x.about(2, 7));
        due.is("the last of a chain follows", 1, x.about(0, 6));
        due.is("the last of a chain leads", NONE, x.about(0, 7));
        x.remove(1);
        int[] gone = {3, 21, 32, 23, 24, ITEM, NONE, NONE, 1};
        whatIs(due, "gone", x, gone);
    }

    private static void whatIs(Due due, String state, Run x, int[] want) {
        for (int what = 0; what < want.length; what++) {
            due.is(state + ": about(1, " + what + ")", want[what], x.about(1, what));
        }
    }

    private static void aboutAsTold(Due due) {
        Run x = column(0, 2);
        for (int n = 0; n < 2; n++) {
            int[] want = {0, 10, 3 * n, 20, 2, TEXT, NONE, NONE, 0};
            for (int what = 0; what < want.length; what++) {
                due.is("about(" + n + ", " + what + ")", want[what], x.about(n, what));
            }
        }
        x.tie(1, 0);
        due.is("it follows the box 1", 1, x.about(0, 6));
        due.is("it leads the box 0", 0, x.about(1, 7));
    }

    private static void aboutNoBox(Due due) {
        refusesNoNumber(due, "about", (r, box) -> r.about(box, 0));
        refusesNoNumber(due, "about whether it is gone", (r, box) -> r.about(box, 8));
        Run x = column(1, 24);
        x.remove(0);
        x.remove(23);
        due.is("the first one is gone", 1, x.about(0, 8));
        due.is("the last one is gone", 1, x.about(23, 8));
    }

    private static void aboutNothing(Due due) {
        Run x = column(1, 2);
        due.is("the first", 1, x.about(1, 0));
        due.is("the last", 0, x.about(1, 8));
        refuses(due, "about(1, ..)", ARGUMENT, x, (r, what) -> r.about(1, what), far(-1, 9, 10));
        x.remove(1);
        refuses(due, "about(1, ..), gone", ARGUMENT, x, (r, what) -> r.about(1, what), far(-1, 9));
    }

    // Promise 13

    private static void wayOfPage(Due due) {
        Run x = new Run();
        x.box(2, 0, 0, 10, 10, TEXT);
        x.box(2, 30, 20, 10, 10, TEXT);
        x.box(2, 4, 60, 20, 10, TEXT);
        due.is("way(2)", (30 + 20) + (21 + 40), x.way(2));
        x.tie(2, 1);
        due.is("way(2), in another order", (9 + 60) + (21 + 40), x.way(2));
        x.remove(1);
        due.is("way(2), one gone", 9 + 60, x.way(2));
    }

    private static void wayPage(Due due) {
        Run x = pages();
        for (int page = 0; page <= 4; page++) {
            due.is("way(" + page + ")", 3 * page, x.way(page));
        }
        refuses(due, "way", INDEX, x, Run::way, -1, 5);
    }

    private static void wayFar(Due due) {
        due.is("way of no box", 0, new Run().way(0));
        Run x = new Run();
        x.box(0, 59, 79, 1, 1, TEXT);
        due.is("way of one box", 0, x.way(0));
        x.box(0, 59, 79, 1, 1, TEXT);
        due.is("way of two boxes in one place", 0, x.way(0));
        x.move(0, 0, 0);
        due.is("way of two boxes", 59 + 79, x.way(0));
        x.remove(1);
        due.is("way of one box, when the other one is gone", 0, x.way(0));
        x.remove(0);
        due.is("way, when all are gone", 0, x.way(0));
        Run far = new Run();
        for (int n = 0; n < 24; n++) {
            far.box(4, n % 2 * 59, n % 2 * 79, 1, 1, TEXT);
        }
        for (int n = 0; n < 23; n++) {
            far.tie(n, n + 1);
        }
        due.is("the farthest way that there can be", 23 * (59 + 79), far.way(4));
    }

    // Promise 14

    private static void faultsTell(Due due) {
        Run x = new Run();
        int[] kinds = {HEAD_2, TEXT, ITEM, FIGURE, NOTE, NOTE};
        int[] want = {1, 0, 2, 0, 0, 4};
        for (int n = 0; n < kinds.length; n++) {
            x.box(1, 0, 5 * n, 60, 5, kinds[n]);
        }
        for (int n = 0; n < kinds.length; n++) {
            due.is("faults(" + n + ")", want[n], x.faults(n));
        }
        x.move(5, 0, 46);
        due.is("faults(5), 21 below", 4 | 16, x.faults(5));
        x.move(5, 0, 24);
        due.is("faults(5), above the end of the one ahead", 4 | 8, x.faults(5));
        due.is("faults(4), which has a place in common with it", 8, x.faults(4));
        x.box(2, 0, 0, 60, 5, NOTE);
        due.is("faults(6), the first of another page", 4, x.faults(6));
        x.box(1, 0, 70, 60, 5, ITEM);
        x.tie(2, 7);
        due.is("faults(2), with an item right behind", 0, x.faults(2));
        due.is("faults(7), with an item right ahead", 16, x.faults(7));
        due.is("faults(4), still right behind a figure", 8, x.faults(4));
    }

    private static void faultsNumber(Due due) {
        Run x = column(1, 24);
        x.move(23, 10, 1);
        for (int box = 0; box < 24; box++) {
            due.is("faults(" + box + ")", box == 0 || box == 23 ? 8 : 0, x.faults(box));
        }
        refuses(due, "faults", INDEX, x, Run::faults, -1, 24);
        refuses(due, "faults with three boxes", INDEX, column(1, 3), Run::faults, 3);
    }

    private static void faultsTogether(Due due) {
        int[] kinds = {TEXT, ITEM, FIGURE, NOTE, HEAD_1, HEAD_2, HEAD_3};
        int[] own = {0, 2, 0, 4, 0, 1, 1};
        for (int n = 0; n < kinds.length; n++) {
            Run x = column(1, 1);
            x.box(1, 10, 10, 20, 10, kinds[n]);
            due.is("faults of the kind " + kinds[n], own[n], x.faults(1));
            x.box(1, 15, 15, 20, 10, TEXT);
            due.is("and a place in common", own[n] | 8, x.faults(1));
            x.move(2, 15, 35);
            x.move(1, 10, 30);
            due.is("and a gap, too", own[n] | 8 | 16, x.faults(1));
            x.remove(2);
            due.is("and a gap alone", own[n] | 16, x.faults(1));
            due.is("the first box", 0, x.faults(0));
        }
    }

    // Promise 15

    private static void faultyCounts(Due due) {
        Run x = column(1, 4);
        due.is("none", 0, x.faulty(1));
        x.move(1, 10, 7);
        due.is("two in one place", 2, x.faulty(1));
        x.box(2, 0, 0, 1, 1, ITEM);
        due.is("another page's do not count", 2, x.faulty(1));
        x.box(1, 10, 79, 1, 1, NOTE);
        due.is("one of two faults counts once", 3, x.faulty(1));
        x.remove(2);
        due.is("one that is gone does not count", 1, x.faulty(1));
        x.box(1, 0, 0, 1, 1, HEAD_2);
        due.is("the first one read counts", 2, x.faulty(1));
    }

    private static void faultyPage(Due due) {
        Run x = new Run();
        for (int page = 0; page <= 4; page++) {
            for (int n = 0; n <= page; n++) {
                x.box(page, 0, 3 * n, 1, 1, NOTE);
            }
        }
        for (int page = 0; page <= 4; page++) {
            due.is("faulty(" + page + ")", page + 1, x.faulty(page));
        }
        refuses(due, "faulty", INDEX, x, Run::faulty, -1, 5);
    }

    private static void faultyMany(Due due) {
        due.is("of no box", 0, new Run().faulty(0));
        due.is("of 24 without a fault", 0, column(4, 24).faulty(4));
        Run x = new Run();
        for (int n = 0; n < 24; n++) {
            x.box(4, 0, 0, 60, 80, n % 2 == 0 ? NOTE : HEAD_3);
        }
        due.is("of 24 with many faults", 24, x.faulty(4));
        for (int n = 0; n < 24; n++) {
            x.remove(n);
        }
        due.is("of 24 that are gone", 0, x.faulty(4));
    }
}
