/** Promises 8 to 15: the order, what is told of boxes and pages, and the faults. */
public final class OrderTest {

    private static final Due due = new Due("OrderTest");
    private static final Class<IndexOutOfBoundsException> INDEX = IndexOutOfBoundsException.class;
    private static final Class<IllegalArgumentException> ARGUMENT = IllegalArgumentException.class;
    private static final int MAX = Integer.MAX_VALUE;
    private static final int MIN = Integer.MIN_VALUE;
    private static final int TEXT = Readingorder.TEXT;
    private static final int ITEM = Readingorder.ITEM;
    private static final int FIGURE = Readingorder.FIGURE;
    private static final int NOTE = Readingorder.NOTE;
    private static final int HEAD_1 = Readingorder.HEAD_1;
    private static final int HEAD_2 = Readingorder.HEAD_2;
    private static final int HEAD_3 = Readingorder.HEAD_3;

    public static void main(String[] args) {
        cutsAcrossComeFirst();
        cutsUprightComeNext();
        cutsMayTouch();
        theLeastCutIsTaken();
        partsAreCutAnew();
        whatCannotBeCutGoesByEdges();
        tiedBoxesAreNotCut();
        manyCutsLieInOneAnother();
        manyBoxesLieOneUponTheOther();
        orderAnswersPlaces();
        placeOfAnswersPlaces();
        boxesAreCounted();
        aboutTells();
        wayIsMeasured();
        headsThatSkip();
        itemsAlone();
        notesWithoutFigures();
        overlaps();
        gaps();
        faultsTogether();
        faultyCounts();
        due.end();
    }

    private static void orderIs(String what, String want, int[]... edges) {
        Run x = new Run();
        for (int[] e : edges) {
            x.box(3, e[0], e[1], e[2], e[3], TEXT);
        }
        due.are(what, want, Look.reading(x, 3));
        due.are(what + ", anew", want, Look.readingAnew(x, 3));
    }

    private static void cutsAcrossComeFirst() {
        orderIs("upper ones first", "1 0", new int[] {0, 40, 10, 10}, new int[] {40, 0, 10, 10});
        orderIs("across ahead of upright", "1 0 3 2",
                new int[] {30, 0, 30, 40}, new int[] {0, 0, 30, 40}, new int[] {30, 40, 30, 40}, new int[] {0, 40, 30, 40});
    }

    private static void cutsUprightComeNext() {
        orderIs("left ones first", "1 0", new int[] {30, 0, 10, 20}, new int[] {0, 10, 10, 20});
        orderIs("columns", "1 3 0 2", new int[] {30, 0, 30, 30}, new int[] {0, 0, 30, 41},
                new int[] {30, 35, 30, 40}, new int[] {0, 41, 30, 39});
    }

    private static void cutsMayTouch() {
        orderIs("edges that touch, across", "1 0", new int[] {0, 20, 20, 10}, new int[] {30, 10, 20, 10});
        orderIs("edges that touch, upright", "1 0", new int[] {20, 0, 20, 10}, new int[] {0, 5, 20, 10});
        orderIs("one less, across", "1 0", new int[] {30, 19, 20, 10}, new int[] {0, 10, 20, 10});
        orderIs("one less, in neither way", "0 1", new int[] {19, 0, 20, 10}, new int[] {0, 5, 20, 10});
    }

    private static void theLeastCutIsTaken() {
        // At 10 alone the upper two are apart from the rest, and each part is cut by itself.
        orderIs("the least height", "2 3 1 0",
                new int[] {0, 30, 60, 10}, new int[] {0, 12, 60, 10}, new int[] {0, 2, 10, 8}, new int[] {20, 0, 10, 9});
        orderIs("the least distance", "2 1 0",
                new int[] {30, 0, 10, 30}, new int[] {12, 0, 10, 20}, new int[] {0, 5, 10, 20});
        orderIs("down at the bottom", "1 0 2",
                new int[] {30, 60, 10, 10}, new int[] {0, 61, 10, 9}, new int[] {0, 70, 60, 10});
        orderIs("a cut that grows over what it would cut through", "0 1 2 3",
                new int[] {0, 0, 10, 10}, new int[] {0, 5, 20, 10}, new int[] {0, 12, 30, 10}, new int[] {0, 22, 10, 10});
    }

    private static void partsAreCutAnew() {
        orderIs("a column in a row", "4 1 3 0 2",
                new int[] {30, 10, 30, 20}, new int[] {0, 10, 30, 10}, new int[] {30, 30, 30, 20},
                new int[] {0, 20, 30, 25}, new int[] {0, 0, 60, 10});
        orderIs("a row in a column", "1 2 0 3",
                new int[] {20, 0, 20, 60}, new int[] {0, 0, 10, 10}, new int[] {0, 20, 20, 50}, new int[] {40, 10, 20, 60});
    }

    private static void whatCannotBeCutGoesByEdges() {
        orderIs("by top edges", "1 2 0", new int[] {10, 20, 40, 40}, new int[] {12, 2, 40, 40}, new int[] {14, 10, 40, 40});
        orderIs("then by left edges", "2 0 1", new int[] {10, 5, 20, 20}, new int[] {12, 5, 20, 20}, new int[] {9, 5, 20, 20});
        orderIs("by left edges, not by top ones", "1 0", new int[] {12, 9, 20, 20}, new int[] {9, 9, 20, 20});
        orderIs("by left edges, left ones alike to top ones", "1 0 2",
                new int[] {12, 12, 20, 20}, new int[] {5, 12, 20, 20}, new int[] {13, 12, 20, 20});
        orderIs("then by numbers", "0 1 2", new int[] {5, 5, 9, 9}, new int[] {5, 5, 20, 20}, new int[] {5, 5, 1, 1});
        // Round a windmill no straight cut goes.
        orderIs("a windmill", "0 1 3 4 2", new int[] {0, 0, 40, 20}, new int[] {40, 0, 20, 60},
                new int[] {20, 60, 40, 20}, new int[] {0, 20, 20, 60}, new int[] {25, 20, 10, 40});
    }

    private static void tiedBoxesAreNotCut() {
        Run x = new Run();
        x.box(0, 0, 0, 20, 10, TEXT);
        x.box(0, 10, 5, 20, 10, TEXT);
        x.box(0, 25, 0, 20, 40, TEXT);
        x.box(0, 0, 5, 20, 10, TEXT);
        due.are("not to be cut", "0 2 3 1", Look.reading(x, 0));
        x.tie(2, 1);
        due.are("cut, now that the one between them follows", "0 3 2 1", Look.reading(x, 0));
        due.are("anew", "0 3 2 1", Look.readingAnew(x, 0));
        x.tie(0, 2);
        due.are("the whole chain behind its first one", "0 2 1 3", Look.reading(x, 0));
        due.are("anew", "0 2 1 3", Look.readingAnew(x, 0));
    }

    private static void manyCutsLieInOneAnother() {
        Run x = new Run();
        StringBuilder want = new StringBuilder();
        for (int n = 0; n < 24; n++) {
            x.box(0, 2 * n, 3 * (23 - n), 2, 3, TEXT);
            want.append(n == 0 ? "" : " ").append(23 - n);
        }
        due.are("24 cuts across", want.toString(), Look.reading(x, 0));
        due.are("24 cuts across, anew", want.toString(), Look.readingAnew(x, 0));
        Run y = new Run();
        // A frame in a frame: each box cuts off one side of what is left.
        int[] side = {0, 0, 60, 80};
        want.setLength(0);
        for (int n = 0; n < 24; n++) {
            boolean across = n % 2 == 0;
            y.box(1, side[0], side[1], across ? side[2] : 2, across ? 2 : side[3], TEXT);
            side[across ? 1 : 0] += 2;
            side[across ? 3 : 2] -= 2;
            want.append(n == 0 ? "" : " ").append(n);
        }
        due.are("a frame in a frame", want.toString(), Look.reading(y, 1));
        due.are("a frame in a frame, anew", want.toString(), Look.readingAnew(y, 1));
        Run z = new Run();
        for (int n = 0; n < 24; n++) {
            z.box(1, 2 * n, 23 - n, 2, 50, TEXT);
        }
        due.are("24 columns, each begins above the one left of it", want.toString(), Look.reading(z, 1));
        due.are("24 columns, anew", want.toString(), Look.readingAnew(z, 1));
    }

    private static void manyBoxesLieOneUponTheOther() {
        Run x = new Run();
        StringBuilder want = new StringBuilder();
        for (int n = 0; n < 24; n++) {
            x.box(4, 10, 10, 24 - n, 24 - n, TEXT);
            want.append(n == 0 ? "" : " ").append(n);
        }
        due.are("24 at the same place", want.toString(), Look.reading(x, 4));
        due.are("24 at the same place, anew", want.toString(), Look.readingAnew(x, 4));
        due.is("all of them have a fault", 24, x.faulty(4));
        Run y = new Run();
        want.setLength(0);
        // Each one reaches over the next one's edge, so that no cut ends before the last one.
        for (int n = 0; n < 24; n++) {
            y.box(4, 2 * (23 - n), 3 * (23 - n), 3, 4, TEXT);
            want.append(n == 0 ? "" : " ").append(23 - n);
        }
        due.are("a stair of 24", want.toString(), Look.reading(y, 4));
        due.are("a stair of 24, anew", want.toString(), Look.readingAnew(y, 4));
    }

    private static void orderAnswersPlaces() {
        Run x = new Run();
        x.box(4, 0, 50, 1, 1, TEXT);
        x.box(4, 0, 0, 1, 1, TEXT);
        x.box(0, 0, 0, 1, 1, TEXT);
        for (int place : new int[] {2, 24, MAX}) {
            due.is("not so many", Readingorder.NONE, x.order(4, place));
            due.is("not so many, anew", Readingorder.NONE, x.orderAnew(4, place));
        }
        due.is("order", 1, x.order(4, 0));
        due.is("order", 0, x.order(4, 1));
        due.is("order", 2, x.order(0, 0));
        due.is("orderAnew", 1, x.orderAnew(4, 0));
        due.is("orderAnew", 0, x.orderAnew(4, 1));
        due.is("orderAnew", 2, x.orderAnew(0, 0));
        due.is("orderAnew of an empty page", Readingorder.NONE, x.orderAnew(2, 0));
        for (int wrong : new int[] {-1, MIN}) {
            due.fails("place " + wrong, INDEX, x, r -> r.order(4, wrong));
            due.fails("place " + wrong, INDEX, x, r -> r.orderAnew(4, wrong));
        }
        for (int wrong : new int[] {-1, 5, MIN, MAX}) {
            due.fails("page " + wrong, INDEX, x, r -> r.order(wrong, 0));
            due.fails("page " + wrong, INDEX, x, r -> r.orderAnew(wrong, 0));
        }
    }

    private static void placeOfAnswersPlaces() {
        Run x = new Run();
        x.box(4, 0, 50, 1, 1, TEXT);
        x.box(4, 0, 0, 1, 1, TEXT);
        x.box(0, 0, 0, 1, 1, TEXT);
        due.is("placeOf", 1, x.placeOf(0));
        due.is("placeOf", 0, x.placeOf(1));
        due.is("placeOf, on its own page", 0, x.placeOf(2));
        x.remove(1);
        due.is("placeOf", 0, x.placeOf(0));
        for (int wrong : new int[] {-1, 1, 3, 24, MIN, MAX}) {
            due.fails("placeOf(" + wrong + ")", INDEX, x, r -> r.placeOf(wrong));
        }
    }

    private static void boxesAreCounted() {
        Run x = new Run();
        x.box(4, 0, 50, 1, 1, TEXT);
        x.box(4, 0, 0, 1, 1, TEXT);
        x.box(0, 0, 0, 1, 1, TEXT);
        due.is("boxes", 2, x.boxes(4));
        due.is("boxes", 1, x.boxes(0));
        due.is("boxes", 0, x.boxes(1));
        x.tie(0, 1);
        due.is("boxes that follow are boxes", 2, x.boxes(4));
        x.remove(0);
        due.is("boxes", 1, x.boxes(4));
        for (int wrong : new int[] {-1, 5, MIN, MAX}) {
            due.fails("boxes(" + wrong + ")", INDEX, x, r -> r.boxes(wrong));
        }
    }

    private static void aboutTells() {
        Run x = new Run();
        x.box(3, 1, 2, 4, 8, NOTE);
        x.box(3, 11, 12, 14, 18, HEAD_2);
        x.tie(1, 0);
        int[] want = {3, 1, 2, 4, 8, NOTE, 1, -1, 0};
        for (int what = 0; what < want.length; what++) {
            due.is("about(0, " + what + ")", want[what], x.about(0, what));
        }
        due.is("what it leads", 0, x.about(1, 7));
        x.remove(0);
        int[] gone = {3, 1, 2, 4, 8, NOTE, -1, -1, 1};
        for (int what = 0; what < gone.length; what++) {
            due.is("about(0, " + what + "), gone", gone[what], x.about(0, what));
        }
        for (int wrong : new int[] {-1, 9, MIN, MAX}) {
            due.fails("about(1, " + wrong + ")", ARGUMENT, x, r -> r.about(1, wrong));
            due.fails("about(0, " + wrong + "), gone", ARGUMENT, x, r -> r.about(0, wrong));
            due.fails("box ahead of what", INDEX, x, r -> r.about(2, wrong));
        }
        for (int wrong : new int[] {-1, 2, 24, MIN, MAX}) {
            due.fails("about(" + wrong + ", 0)", INDEX, x, r -> r.about(wrong, 0));
        }
    }

    private static void wayIsMeasured() {
        Run x = new Run();
        due.is("no box", 0, x.way(2));
        x.box(2, 0, 0, 5, 7, TEXT);
        due.is("one box", 0, x.way(2));
        // The middles are 2, 3 and 10, 21: halves are rounded down ahead of the difference.
        x.box(2, 9, 20, 3, 3, TEXT);
        due.is("two boxes", 8 + 18, x.way(2));
        x.box(2, 0, 30, 4, 4, TEXT);
        due.is("back again", 8 + 18 + 8 + 11, x.way(2));
        x.tie(2, 1);
        due.is("in the order that is read", (0 + 29) + (8 + 11), x.way(2));
        x.box(1, 50, 70, 4, 4, TEXT);
        due.is("another page", 0, x.way(1));
        for (int wrong : new int[] {-1, 5, MIN, MAX}) {
            due.fails("way(" + wrong + ")", INDEX, x, r -> r.way(wrong));
        }
    }

    /** Boxes of these kinds, one right below the other. */
    private static Run pile(int... kinds) {
        Run x = new Run();
        for (int n = 0; n < kinds.length; n++) {
            x.box(0, 0, 3 * n, 60, 3, kinds[n]);
        }
        return x;
    }

    private static void faultsAre(String what, Run x, int... want) {
        for (int box = 0; box < want.length; box++) {
            due.is(what + ": faults(" + box + ")", want[box], x.faults(box));
        }
    }

    private static void headsThatSkip() {
        faultsAre("from level to level", pile(HEAD_1, HEAD_2, HEAD_3, HEAD_3, HEAD_1, HEAD_1, HEAD_2, HEAD_1), 0, 0, 0, 0, 0, 0, 0, 0);
        faultsAre("1 to 3", pile(HEAD_1, HEAD_3, HEAD_2), 0, 1, 0);
        faultsAre("a text between", pile(HEAD_1, TEXT, HEAD_3, TEXT, HEAD_3), 0, 0, 1, 0, 0);
        faultsAre("the first of level 2", pile(HEAD_2, HEAD_3), 1, 0);
        faultsAre("the first of level 3, behind a text", pile(TEXT, HEAD_3, HEAD_1), 0, 1, 0);
        faultsAre("the last one counts, not the least", pile(HEAD_1, HEAD_2, HEAD_1, HEAD_3), 0, 0, 0, 1);
        Run x = pile(HEAD_1);
        x.box(1, 0, 0, 1, 1, HEAD_2);
        due.is("a head of another page is none ahead", 1, x.faults(1));
    }

    private static void itemsAlone() {
        faultsAre("alone on the page", pile(ITEM), 2);
        faultsAre("two", pile(ITEM, ITEM), 0, 0);
        faultsAre("one ahead, one behind", pile(TEXT, ITEM, ITEM, TEXT, ITEM, TEXT), 0, 0, 0, 0, 2, 0);
        faultsAre("three", pile(ITEM, ITEM, ITEM), 0, 0, 0);
        faultsAre("not right behind", pile(ITEM, TEXT, ITEM), 2, 0, 2);
        Run x = pile(ITEM, TEXT, ITEM);
        x.tie(0, 2);
        faultsAre("tied together", x, 0, 0, 0);
    }

    private static void notesWithoutFigures() {
        faultsAre("none ahead", pile(NOTE, FIGURE), 4, 0);
        faultsAre("a figure ahead", pile(FIGURE, NOTE, NOTE), 0, 0, 4);
        faultsAre("a text between", pile(FIGURE, TEXT, NOTE), 0, 0, 4);
    }

    private static void overlapIs(String what, int want, int left, int top, int width, int height) {
        Run x = new Run();
        x.box(0, 20, 20, 20, 20, TEXT);
        x.box(0, left, top, width, height, TEXT);
        due.is(what, want, x.faults(0) & 8);
        due.is(what + ", the other one", want, x.faults(1) & 8);
    }

    private static void overlaps() {
        overlapIs("touching above", 0, 20, 0, 20, 20);
        overlapIs("touching below", 0, 20, 40, 20, 20);
        overlapIs("touching left", 0, 0, 20, 20, 20);
        overlapIs("touching right", 0, 40, 20, 20, 20);
        overlapIs("touching at a corner", 0, 40, 40, 20, 20);
        overlapIs("one in common above", 8, 20, 0, 20, 21);
        overlapIs("one in common below", 8, 20, 39, 20, 20);
        overlapIs("one in common left", 8, 0, 20, 21, 20);
        overlapIs("one in common right", 8, 39, 20, 20, 20);
        overlapIs("a corner in common", 8, 39, 39, 20, 20);
        overlapIs("one within the other", 8, 25, 25, 5, 5);
        overlapIs("one round the other", 8, 0, 0, 60, 80);
        overlapIs("a cross", 8, 25, 0, 5, 80);
        overlapIs("the same place", 8, 20, 20, 20, 20);
        overlapIs("beside, at the same height", 0, 50, 25, 5, 5);
        Run x = new Run();
        x.box(0, 0, 0, 20, 20, TEXT);
        x.box(1, 0, 0, 20, 20, TEXT);
        due.is("on another page", 0, x.faults(0));
        x.box(0, 0, 0, 20, 20, TEXT);
        due.is("on its page", 8, x.faults(0));
        x.tie(2, 0);
        due.is("tied", 8, x.faults(0));
        x.remove(2);
        due.is("gone", 0, x.faults(0));
    }

    private static void gaps() {
        Run x = new Run();
        x.box(0, 0, 30, 10, 10, TEXT);
        due.is("the first one of its page", 0, x.faults(0));
        x.box(0, 0, 60, 10, 10, TEXT);
        due.is("20 below", 0, x.faults(1));
        x.move(1, 0, 61);
        due.is("21 below", 16, x.faults(1));
        due.is("the one ahead has no gap", 0, x.faults(0));
        x.box(0, 20, 0, 10, 70, TEXT);
        due.is("the one right ahead counts", 16, x.faults(1));
        x.tie(2, 1);
        due.is("tied behind another one", 0, x.faults(1));
        x.tie(1, 0);
        due.is("above the one ahead", 0, x.faults(0));
    }

    private static void faultsTogether() {
        Run x = new Run();
        x.box(0, 0, 0, 10, 10, HEAD_1);
        x.box(0, 0, 50, 10, 10, HEAD_3);
        x.box(0, 5, 55, 10, 10, NOTE);
        faultsAre("together", x, 0, 1 | 8 | 16, 4 | 8);
        x.remove(0);
        for (int wrong : new int[] {-1, 0, 3, 24, MIN, MAX}) {
            due.fails("faults(" + wrong + ")", INDEX, x, r -> r.faults(wrong));
        }
    }

    private static void faultyCounts() {
        Run x = pile(HEAD_2, ITEM, TEXT, NOTE, FIGURE, NOTE, HEAD_1);
        due.is("faulty", 3, x.faulty(0));
        x.box(1, 0, 0, 1, 1, ITEM);
        due.is("faulty of another page", 1, x.faulty(1));
        due.is("faulty", 3, x.faulty(0));
        x.remove(1);
        due.is("faulty", 2, x.faulty(0));
        due.is("faulty of an empty page", 0, x.faulty(2));
        Run y = new Run();
        y.box(0, 0, 0, 20, 20, NOTE);
        y.box(0, 0, 10, 20, 20, NOTE);
        due.is("a box of many faults counts once", 2, y.faulty(0));
        for (int wrong : new int[] {-1, 5, MIN, MAX}) {
            due.fails("faulty(" + wrong + ")", INDEX, x, r -> r.faulty(wrong));
        }
    }
}
