/** What the document tells under "Terms", sentence by sentence. */
final class TermEdges extends Edges {

    static void addTo(Sentences all) {
        all.add("Boxes", "There are the pages 0 to 4, each 60 wide and 80 high.", TermEdges::pagesAndTheirSize);
        all.add("Boxes", "A box is on a page, with its left and top edge, its width and its height, all within the page;",
                TermEdges::withinThePage);
        all.add("Boxes", "its right edge is its left one and its width, together, its bottom edge its top one and its height.",
                TermEdges::farEdges);
        all.add("Boxes", "It is a TEXT, an ITEM, a FIGURE, a NOTE, or a head of the level 1, 2 or 3.", TermEdges::kinds);
        all.add("Boxes", "Boxes are numbered from 0, at most 24;", TermEdges::boxNumbers);
        all.add("Boxes", "a box that is removed is gone, but keeps its number.", TermEdges::goneKeepsItsNumber);

        all.add("The order", "A tie lets a box be read right behind another one of its page: that leads, the other one follows.",
                TermEdges::tieReadsBehind);
        all.add("The order", "Each box leads one at most, and follows one at most (also not the same one once more);",
                TermEdges::oneAtMost);
        all.add("The order", "no box follows itself by however many ties.", TermEdges::noRings);
        all.add("The order", "The boxes of a page that follow none are put in order by cuts.", TermEdges::whatIsCut);
        all.add("The order", "A set of boxes is cut across at a height, if each of them has its bottom edge at that or above it,"
                + " or its top edge at that or below it, and there are some of either sort;", TermEdges::cutAcross);
        all.add("The order", "at the least such height; the upper ones are read first, then the lower ones, each put in order"
                + " likewise.", TermEdges::upperOnesFirst);
        all.add("The order", "If it cannot be cut across, it is cut upright at the least distance from the left edge of the page"
                + " at which it can, by right and left edges likewise; what is left of it first.", TermEdges::cutUpright);
        all.add("The order", "If it can be cut in neither way, its boxes are read by their top edges, of the same by their left"
                + " edges, then by their numbers.", TermEdges::notCut);
        all.add("The order", "Behind each box comes the one that follows it, then the one that follows that, and so on.",
                TermEdges::chains);

        all.add("Checks", "The faults of a box, as bits: 1 it is a head, and its level is more than 1 greater than that of the"
                + " head that was read last ahead of it on its page (the first head may have the level 1 alone);",
                TermEdges::heads);
        all.add("Checks", "2 it is an ITEM, and neither the box right ahead of it in the order of its page nor the one right"
                + " behind it is one;", TermEdges::items);
        all.add("Checks", "4 it is a NOTE, and the box right ahead of it is no FIGURE, or there is none;", TermEdges::notes);
        all.add("Checks", "8 it has some place in common with another box of its page (edges that touch are none);",
                TermEdges::placesInCommon);
        all.add("Checks", "16 it is not the first one of its page, and its top edge is more than 20 below the bottom edge of the"
                + " box right ahead of it.", TermEdges::gaps);
        all.add("Checks", "The way of a page is how far it is from the middle of each box to that of the next one, by width and"
                + " by height, together, over the whole order;", TermEdges::way);
        all.add("Checks", "the middle is the left edge and half of the width, the top edge and half of the height, halves rounded"
                + " down.", TermEdges::middle);

        all.add("Approvals", "A person approves a page in its order; approvals are numbered from 0, at most 20.",
                TermEdges::approvalNumbers);
        all.add("Approvals", "As soon as the order of the page is another one (other boxes, or otherwise), the approval falls, for"
                + " ever, whatever comes later.", TermEdges::approvalsFall);
        all.add("Approvals", "Faults, and places that let the order be the same, are no matter.", TermEdges::noMatter);
        all.add("Approvals", "A call that throws an exception changes nothing.", TermEdges::throwingChangesNothing);
        all.add("Approvals", "If several apply, the one that is named first in the throws clause is thrown.",
                TermEdges::firstNamed);
        all.add("Approvals", "The constants: `NONE = -1`: There is none.", TermEdges::none);
        all.add("Approvals", "`TEXT = 0, ITEM = 1, FIGURE = 2, NOTE = 3, HEAD_1 = 4, HEAD_2 = 5, HEAD_3 = 6`: Boxes.",
                TermEdges::kindNumbers);
    }

    // Boxes

    private static void pagesAndTheirSize(Due due) {
        for (int page = 0; page <= 4; page++) {
            int at = page;
            Run x = new Run();
            due.is("the whole page " + page, 0, x.box(page, 0, 0, 60, 80, TEXT));
            due.is("is of it", 1, x.boxes(page));
            refuses(due, "box on the page " + page, ARGUMENT, x, (r, width, height) -> r.box(at, 0, 0, width, height, TEXT),
                    new int[][] {{61, 80}, {60, 81}, {80, 60}});
        }
        Run x = pages();
        int[] no = {-1, 5};
        refuses(due, "box", INDEX, x, (r, page) -> r.box(page, 0, 0, 1, 1, TEXT), no);
        refuses(due, "order", INDEX, x, (r, page) -> r.order(page, 0), no);
        refuses(due, "orderAnew", INDEX, x, (r, page) -> r.orderAnew(page, 0), no);
        refuses(due, "boxes", INDEX, x, Run::boxes, no);
        refuses(due, "way", INDEX, x, Run::way, no);
        refuses(due, "faulty", INDEX, x, Run::faulty, no);
        refuses(due, "approve", INDEX, x, (r, page) -> r.approve(0, page), no);
        refuses(due, "approvers", INDEX, x, Run::approvers, no);
    }

    /** A box of the size 4 and 6 is tried there by each call that puts one: just within the page, or just not. */
    private static void triedAt(Due due, boolean within, int left, int top) {
        Run x = new Run();
        x.box(2, 20, 20, 4, 6, TEXT);
        String place = " at " + left + ", " + top;
        if (within) {
            due.is("box" + place, 1, x.again().box(2, left, top, 4, 6, TEXT));
            due.is("move" + place, 0, x.again().move(0, left, top));
            due.is("breaks" + place, 0, x.again().breaks(0, left, top));
        } else {
            due.fails("box" + place, ARGUMENT, x, r -> r.box(2, left, top, 4, 6, TEXT));
            due.fails("move" + place, ARGUMENT, x, r -> r.move(0, left, top));
            due.fails("breaks" + place, ARGUMENT, x, r -> r.breaks(0, left, top));
        }
    }

    private static void withinThePage(Due due) {
        int[][] corners = {{0, 0}, {56, 0}, {0, 74}, {56, 74}};
        for (int[] corner : corners) {
            triedAt(due, true, corner[0], corner[1]);
        }
        int[][] beside = {{-1, 0}, {0, -1}, {57, 0}, {56, -1}, {-1, 74}, {0, 75}, {57, 74}, {56, 75}, {60, 20}, {20, 80},
            {-4, 20}, {20, -6}, {61, 20}, {20, 81}};
        for (int[] place : beside) {
            triedAt(due, false, place[0], place[1]);
        }
        Run x = new Run();
        x.box(2, 20, 20, 4, 6, TEXT);
        due.is("resize to the far corner", 0, x.again().resize(0, 40, 60));
        refuses(due, "resize", ARGUMENT, x, (r, width, height) -> r.resize(0, width, height),
                new int[][] {{41, 60}, {40, 61}, {0, 6}, {4, 0}, {-20, 6}, {4, -20}});
    }

    /** With sums that wrap round below 0 the right or bottom edge would seem to be within the page. */
    private static void farEdges(Due due) {
        for (int left : new int[] {0, 1, 30, 59}) {
            Run x = new Run();
            x.box(0, left, 5, 60 - left, 5, TEXT);
            due.is("right edge at 60", 60, x.about(0, 1) + x.about(0, 3));
            refuses(due, "resize(0, .., 5) at " + left, ARGUMENT, x, (r, width) -> r.resize(0, width, 5),
                    61 - left, MAX - left, MAX - left + (left == 0 ? 0 : 1), MAX);
            refuses(due, "box at " + left, ARGUMENT, x, (r, width) -> r.box(0, left, 5, width, 5, TEXT),
                    61 - left, MAX - left, MAX - left + (left == 0 ? 0 : 1), MAX);
            refuses(due, "move(0, .., 5)", ARGUMENT, x, (r, to) -> r.move(0, to, 5), left + 1, MAX - 60 + left, MAX);
            refuses(due, "breaks(0, .., 5)", ARGUMENT, x, (r, to) -> r.breaks(0, to, 5), left + 1, MAX - 60 + left, MAX);
        }
        for (int top : new int[] {0, 1, 40, 79}) {
            Run x = new Run();
            x.box(0, 5, top, 5, 80 - top, TEXT);
            due.is("bottom edge at 80", 80, x.about(0, 2) + x.about(0, 4));
            refuses(due, "resize(0, 5, ..) at " + top, ARGUMENT, x, (r, height) -> r.resize(0, 5, height),
                    81 - top, MAX - top, MAX - top + (top == 0 ? 0 : 1), MAX);
            refuses(due, "box at " + top, ARGUMENT, x, (r, height) -> r.box(0, 5, top, 5, height, TEXT),
                    81 - top, MAX - top, MAX - top + (top == 0 ? 0 : 1), MAX);
            refuses(due, "move(0, 5, ..)", ARGUMENT, x, (r, to) -> r.move(0, 5, to), top + 1, MAX - 80 + top, MAX);
            refuses(due, "breaks(0, 5, ..)", ARGUMENT, x, (r, to) -> r.breaks(0, 5, to), top + 1, MAX - 80 + top, MAX);
        }
        Run y = new Run();
        refuses(due, "box of the left edge and the width", ARGUMENT, y, (r, left, width) -> r.box(0, left, 5, width, 5, TEXT),
                new int[][] {{MAX, 1}, {MAX, MAX}, {MIN, MAX}, {1, MAX}, {MAX - 60, 61}, {MIN, MIN}});
        refuses(due, "box of the top edge and the height", ARGUMENT, y, (r, top, height) -> r.box(0, 5, top, 5, height, TEXT),
                new int[][] {{MAX, 1}, {MAX, MAX}, {MIN, MAX}, {1, MAX}, {MAX - 80, 81}, {MIN, MIN}});
    }

    private static void kinds(Due due) {
        int[] kinds = {TEXT, ITEM, FIGURE, NOTE, HEAD_1, HEAD_2, HEAD_3};
        Run x = new Run();
        for (int n = 0; n < kinds.length; n++) {
            due.is("box of the kind " + kinds[n], n, x.box(0, 0, 5 * n, 60, 5, kinds[n]));
        }
        for (int n = 0; n < kinds.length; n++) {
            due.is("its kind", kinds[n], x.about(n, 5));
        }
        refuses(due, "box of the kind", ARGUMENT, x, (r, kind) -> r.box(0, 0, 0, 1, 1, kind), far(-1, 7));
        // A head is as deep as its level, and no other kind is a head.
        for (int kind : kinds) {
            Run y = new Run();
            y.box(0, 0, 0, 60, 5, HEAD_1);
            y.box(0, 0, 5, 60, 5, kind);
            y.box(0, 0, 10, 60, 5, HEAD_3);
            due.is("a head of the level 3 behind the kind " + kind, kind == HEAD_2 || kind == HEAD_3 ? 0 : 1, y.faults(2));
            y.remove(2);
            y.box(0, 0, 10, 60, 5, HEAD_2);
            due.is("a head of the level 2 behind the kind " + kind, 0, y.faults(3));
        }
    }

    private static void boxNumbers(Due due) {
        Run x = new Run();
        for (int number = 0; number < 24; number++) {
            due.is("box", number, x.box(number % 5, 0, 3 * number, 2, 2, TEXT));
            due.is("its top edge", 3 * number, x.about(number, 2));
        }
        due.fails("the 25th box", STATE, x, r -> r.box(0, 0, 0, 1, 1, TEXT));
        int[] none = {-1, 24};
        refuses(due, "move", INDEX, x, (r, box) -> r.move(box, 0, 0), none);
        refuses(due, "resize", INDEX, x, (r, box) -> r.resize(box, 1, 1), none);
        refuses(due, "remove", INDEX, x, Run::remove, none);
        refuses(due, "tie from", INDEX, x, (r, box) -> r.tie(box, 5), none);
        refuses(due, "tie to", INDEX, x, (r, box) -> r.tie(5, box), none);
        refuses(due, "untie", INDEX, x, Run::untie, none);
        refuses(due, "placeOf", INDEX, x, Run::placeOf, none);
        refuses(due, "about", INDEX, x, (r, box) -> r.about(box, 0), none);
        refuses(due, "faults", INDEX, x, Run::faults, none);
        refuses(due, "breaks", INDEX, x, (r, box) -> r.breaks(box, 0, 0), none);
        due.is("move the last one", 0, x.move(23, 7, 7));
        due.is("tie the last one", 0, x.tie(23, 3));
        due.is("its follower", 3, x.about(23, 7));
        due.is("its place", 0, x.placeOf(23));
        due.is("untie from it", 0, x.untie(3));
        due.is("resize it", 0, x.resize(23, 3, 3));
        due.is("its faults", 0, x.faults(23));
        due.is("breaks of it", 0, x.breaks(23, 0, 0));
        due.is("remove it", 0, x.remove(23));
    }

    private static void goneKeepsItsNumber(Due due) {
        Run x = column(1, 3);
        x.remove(1);
        due.is("it is gone", 1, x.about(1, 8));
        due.is("the box behind it keeps its number", 6, x.about(2, 2));
        due.is("the next box", 3, x.box(1, 10, 20, 20, 2, TEXT));
        due.are("the page", "0 2 3", Look.reading(x, 1));
        due.is("it is still gone", 1, x.about(1, 8));
        for (int call = 0; call < 6; call++) {
            int which = call;
            due.fails("the call " + call + " of one that is gone", INDEX, x, r -> ofBox(r, which, 1));
        }
        Run full = column(1, 24);
        for (int n = 0; n < 24; n++) {
            full.remove(n);
        }
        due.fails("a 25th box, when 24 are gone", STATE, full, r -> r.box(1, 0, 0, 1, 1, TEXT));
        due.is("the last one is gone", 1, full.about(23, 8));
    }

    private static long ofBox(Run r, int call, int box) {
        switch (call) {
            case 0: return r.move(box, 0, 0);
            case 1: return r.resize(box, 1, 1);
            case 2: return r.remove(box);
            case 3: return r.placeOf(box);
            case 4: return r.faults(box);
            default: return r.breaks(box, 0, 0);
        }
    }

    // The order

    private static void tieReadsBehind(Due due) {
        Run x = column(1, 3);
        x.box(2, 0, 0, 1, 1, TEXT);
        x.tie(2, 0);
        due.are("right behind it", "1 2 0", Look.reading(x, 1));
        due.is("that leads", 0, x.about(2, 7));
        due.is("the other one follows", 2, x.about(0, 6));
        due.is("that does not follow", NONE, x.about(2, 6));
        due.is("the other one does not lead", NONE, x.about(0, 7));
        due.fails("of another page", ARGUMENT, x, r -> r.tie(1, 3));
        x.move(2, 10, 40);
        x.move(0, 0, 0);
        due.are("wherever either is", "1 2 0", Look.reading(x, 1));
        Run two = column(1, 2);
        two.tie(1, 0);
        due.are("all boxes but one follow", "1 0", Look.reading(two, 1));
    }

    private static void oneAtMost(Due due) {
        Run x = column(1, 5);
        x.tie(0, 1);
        due.fails("the same once more", STATE, x, r -> r.tie(0, 1));
        due.fails("it leads one already", STATE, x, r -> r.tie(0, 2));
        due.fails("it follows one already", STATE, x, r -> r.tie(2, 1));
        due.is("one that follows leads", 0, x.tie(1, 2));
        due.fails("it leads one already, and follows one", STATE, x, r -> r.tie(1, 3));
        x.untie(1);
        due.is("it leads none any more", 0, x.tie(0, 3));
        due.fails("it leads another one, now", STATE, x, r -> r.tie(0, 1));
        x.remove(3);
        due.is("what it led is gone", 0, x.tie(0, 1));
        x.remove(0);
        due.fails("it still leads", STATE, x, r -> r.tie(1, 2));
        due.is("what led it is gone", 0, x.tie(4, 1));
    }

    private static void noRings(Due due) {
        due.fails("a ring of one", ARGUMENT, column(1, 1), r -> r.tie(0, 0));
        for (int count : new int[] {2, 3, 4, 23, 24}) {
            Run x = column(1, count);
            for (int n = 0; n < count - 1; n++) {
                x.tie(n, n + 1);
            }
            due.fails("a ring of " + count, STATE, x, r -> r.tie(count - 1, 0));
            due.are("a chain of " + count, numbers(0, count - 1), Look.reading(x, 1));
        }
    }

    private static void whatIsCut(Due due) {
        Run x = new Run();
        x.box(1, 30, 0, 20, 40, TEXT);
        x.box(1, 0, 5, 20, 40, TEXT);
        x.box(1, 15, 10, 20, 10, TEXT);
        due.are("not to be cut", "0 1 2", Look.reading(x, 1));
        x.tie(0, 2);
        due.are("to be cut, as the one between them follows", "1 0 2", Look.reading(x, 1));
        x.untie(2);
        due.are("not to be cut once more", "0 1 2", Look.reading(x, 1));
        x.remove(2);
        due.are("to be cut, as the one between them is gone", "1 0", Look.reading(x, 1));
        x.box(2, 15, 10, 20, 10, TEXT);
        x.move(1, 0, 6);
        due.are("to be cut, as the one between them is on another page", "1 0", Look.reading(x, 1));
        due.are("to be cut, as the one between them is on another page, anew", "1 0", Look.readingAnew(x, 1));
        Run y = new Run();
        y.box(1, 30, 0, 20, 20, TEXT);
        y.box(1, 0, 20, 20, 20, TEXT);
        y.box(1, 0, 10, 20, 20, TEXT);
        due.are("to be cut upright alone", "2 1 0", Look.reading(y, 1));
        y.tie(1, 2);
        due.are("to be cut across, as the one over the cut follows", "0 1 2", Look.reading(y, 1));
    }

    /** The boxes are given by left and top edge, width and height, and are put on page 2. */
    private static void readAs(Due due, String what, String want, int[]... edges) {
        Run x = new Run();
        for (int[] e : edges) {
            x.box(2, e[0], e[1], e[2], e[3], TEXT);
        }
        due.are(what, want, Look.reading(x, 2));
        due.are(what + ", anew", want, Look.readingAnew(x, 2));
    }

    private static void cutAcross(Due due) {
        readAs(due, "edges that touch", "1 0", new int[] {0, 10, 30, 10}, new int[] {20, 0, 30, 10});
        readAs(due, "edges 1 apart", "1 0", new int[] {0, 11, 30, 10}, new int[] {20, 0, 30, 10});
        readAs(due, "1 in common, so cut upright", "1 0", new int[] {30, 9, 30, 10}, new int[] {0, 0, 30, 10});
        readAs(due, "1 in common, the right one above", "0 1", new int[] {0, 9, 30, 10}, new int[] {30, 0, 30, 10});
        readAs(due, "1 in common at the bottom", "0 1", new int[] {0, 5, 30, 6}, new int[] {30, 0, 30, 10});
        readAs(due, "at the bottom of the page", "1 0", new int[] {0, 79, 30, 1}, new int[] {30, 0, 30, 79});
        readAs(due, "at the top of the page", "1 0", new int[] {0, 1, 30, 79}, new int[] {30, 0, 30, 1});
        readAs(due, "none above and none below", "0 1", new int[] {0, 0, 30, 80}, new int[] {30, 0, 30, 80});
        readAs(due, "one of three is cut through", "0 1 2",
                new int[] {0, 10, 20, 10}, new int[] {20, 5, 20, 10}, new int[] {40, 0, 20, 10});
    }

    private static void upperOnesFirst(Due due) {
        readAs(due, "three rows", "2 1 0", new int[] {0, 60, 60, 10}, new int[] {0, 30, 60, 10}, new int[] {0, 0, 60, 10});
        readAs(due, "across ahead of upright", "1 0 3 2", new int[] {30, 0, 30, 40}, new int[] {0, 0, 30, 40},
                new int[] {30, 40, 30, 40}, new int[] {0, 40, 30, 40});
        readAs(due, "the upper ones and the lower ones cut likewise", "3 2 5 4 1 0",
                new int[] {0, 70, 60, 10}, new int[] {0, 60, 60, 10}, new int[] {30, 0, 10, 30}, new int[] {0, 10, 10, 30},
                new int[] {20, 40, 10, 20}, new int[] {0, 45, 10, 15});
        Run rows = column(2, 24);
        due.are("24 rows", numbers(0, 23), Look.reading(rows, 2));
        for (int n = 0; n < 24; n++) {
            rows.move(n, 10, 78 - 3 * n);
        }
        due.are("24 rows, the other way round", numbers(23, 0), Look.reading(rows, 2));
    }

    private static void cutUpright(Due due) {
        // What is right of the first cut can't be cut across; what is left of the second one could be.
        readAs(due, "the least distance", "2 1 0",
                new int[] {40, 0, 20, 80}, new int[] {20, 0, 20, 10}, new int[] {0, 40, 20, 10});
        readAs(due, "what is right of it is cut across", "2 1 0 3",
                new int[] {20, 50, 20, 30}, new int[] {20, 10, 40, 40}, new int[] {0, 0, 20, 80}, new int[] {40, 50, 20, 30});
        readAs(due, "edges that touch", "1 0", new int[] {30, 0, 30, 20}, new int[] {0, 10, 30, 20});
        readAs(due, "edges 1 apart", "1 0", new int[] {30, 0, 30, 20}, new int[] {0, 10, 29, 20});
        readAs(due, "1 in common, so not cut", "0 1", new int[] {29, 0, 30, 20}, new int[] {0, 10, 30, 20});
        readAs(due, "1 in common at the right, so not cut", "1 0", new int[] {0, 5, 30, 20}, new int[] {10, 0, 21, 20});
        readAs(due, "at the right edge of the page", "1 0", new int[] {59, 0, 1, 20}, new int[] {0, 10, 59, 20});
        readAs(due, "at the left edge of the page", "1 0", new int[] {1, 0, 59, 20}, new int[] {0, 10, 1, 20});
        Run columns = new Run();
        for (int n = 0; n < 24; n++) {
            columns.box(2, 46 - 2 * n, n, 2, 50, TEXT);
        }
        due.are("24 columns", numbers(23, 0), Look.reading(columns, 2));
        due.are("24 columns, anew", numbers(23, 0), Look.readingAnew(columns, 2));
    }

    private static void notCut(Due due) {
        readAs(due, "by top edges", "1 0", new int[] {0, 10, 30, 20}, new int[] {20, 9, 30, 20});
        readAs(due, "of the same top edge by left edges", "1 0", new int[] {11, 9, 30, 20}, new int[] {10, 9, 30, 20});
        readAs(due, "of the same edges by numbers", "0 1", new int[] {10, 9, 30, 20}, new int[] {10, 9, 20, 10});
        readAs(due, "of the same edges by numbers, the larger one last", "0 1",
                new int[] {10, 9, 20, 10}, new int[] {10, 9, 30, 20});
        readAs(due, "the top edge ahead of the left edge", "1 0", new int[] {0, 10, 30, 20}, new int[] {29, 9, 30, 20});
        readAs(due, "the left edge ahead of the number", "2 0 1",
                new int[] {10, 9, 30, 20}, new int[] {11, 9, 30, 20}, new int[] {9, 9, 30, 20});
        Run x = new Run();
        for (int n = 0; n < 24; n++) {
            x.box(2, 0, 0, 60, 80, TEXT);
        }
        due.are("24 boxes in one place", numbers(0, 23), Look.reading(x, 2));
        for (int n = 0; n < 24; n++) {
            x.resize(n, 30, 40);
            x.move(n, 24 - n, 0);
        }
        due.are("24 left edges", numbers(23, 0), Look.reading(x, 2));
        for (int n = 0; n < 24; n++) {
            x.move(n, 24 - n, n);
        }
        due.are("24 top edges", numbers(0, 23), Look.reading(x, 2));
    }

    private static void chains(Due due) {
        Run x = column(1, 6);
        x.tie(4, 0);
        x.tie(0, 3);
        x.tie(3, 2);
        due.are("a chain between two that follow none", "1 4 0 3 2 5", Look.reading(x, 1));
        x.tie(1, 5);
        due.are("two chains", "1 5 4 0 3 2", Look.reading(x, 1));
        x.tie(2, 1);
        due.are("one chain behind the other one", "4 0 3 2 1 5", Look.reading(x, 1));
        Run full = column(1, 24);
        for (int n = 23; n > 0; n--) {
            full.tie(n, n - 1);
        }
        due.are("a chain of 24", numbers(23, 0), Look.reading(full, 1));
        full.untie(22);
        due.are("a chain of 23, and one that is read behind it", numbers(22, 0) + " 23", Look.reading(full, 1));
    }

    // Checks

    /** Boxes of these kinds on page 3, one right below the other. */
    private static Run pile(int... kinds) {
        Run x = new Run();
        for (int n = 0; n < kinds.length; n++) {
            x.box(3, 0, 3 * n, 60, 3, kinds[n]);
        }
        return x;
    }

    private static void faultsAre(Due due, String what, Run x, int... want) {
        for (int box = 0; box < want.length; box++) {
            due.is(what + ": faults(" + box + ")", want[box], x.faults(box));
        }
    }

    private static void heads(Due due) {
        int[] levels = {HEAD_1, HEAD_2, HEAD_3};
        for (int last : levels) {
            faultsAre(due, "the first head, of the kind " + last, pile(TEXT, last), 0, last == HEAD_1 ? 0 : 1);
            faultsAre(due, "the first box, of the kind " + last, pile(last), last == HEAD_1 ? 0 : 1);
            for (int next : levels) {
                int want = next - last > 1 ? 1 : 0;
                due.is(next + " behind " + last, want, pile(last, next).faults(1));
                due.is(next + " behind " + last + ", a note between", want, pile(last, NOTE, next).faults(2));
            }
        }
        faultsAre(due, "the head read last counts, not the first", pile(HEAD_1, HEAD_2, HEAD_3), 0, 0, 0);
        faultsAre(due, "nor the deepest", pile(HEAD_1, HEAD_2, HEAD_1, HEAD_3), 0, 0, 0, 1);
        faultsAre(due, "one that has a fault counts", pile(HEAD_3, HEAD_3, HEAD_2), 1, 0, 0);
        faultsAre(due, "no other kind skips", pile(HEAD_1, TEXT, FIGURE), 0, 0, 0);
        Run x = pile(HEAD_1, HEAD_2);
        x.box(4, 0, 0, 1, 1, HEAD_2);
        due.is("a head on another page is not ahead", 1, x.faults(2));
        x.tie(1, 0);
        faultsAre(due, "ahead in the order, not on the page", x, 0, 1);
        Run all = column(3, 0);
        for (int n = 0; n < 24; n++) {
            all.box(3, 0, 3 * n, 60, 3, n == 0 ? HEAD_1 : n == 23 ? HEAD_3 : TEXT);
        }
        due.is("22 texts between", 1, all.faults(23));
    }

    private static void items(Due due) {
        faultsAre(due, "the only box", pile(ITEM), 2);
        faultsAre(due, "the first and the last one", pile(ITEM, TEXT, ITEM), 2, 0, 2);
        faultsAre(due, "one behind the first, one ahead of the last", pile(ITEM, ITEM, TEXT, ITEM, ITEM), 0, 0, 0, 0, 0);
        faultsAre(due, "between two others", pile(TEXT, ITEM, NOTE), 0, 2, 4);
        faultsAre(due, "one ahead alone", pile(TEXT, ITEM, ITEM, TEXT), 0, 0, 0, 0);
        faultsAre(due, "other kinds may stand alone", pile(TEXT, ITEM, FIGURE, TEXT), 0, 2, 0, 0);
        Run x = pile(ITEM, TEXT, ITEM);
        x.tie(2, 1);
        faultsAre(due, "right behind in the order, not on the page", x, 0, 0, 0);
        Run y = pile(ITEM);
        y.box(4, 0, 0, 60, 3, ITEM);
        faultsAre(due, "another page's is not beside it", y, 2, 2);
    }

    private static void notes(Due due) {
        faultsAre(due, "the only box", pile(NOTE), 4);
        faultsAre(due, "none ahead", pile(NOTE, FIGURE), 4, 0);
        faultsAre(due, "right behind a figure", pile(FIGURE, NOTE), 0, 0);
        faultsAre(due, "behind a note", pile(FIGURE, NOTE, NOTE), 0, 0, 4);
        for (int kind : new int[] {TEXT, ITEM, NOTE, HEAD_1, HEAD_2, HEAD_3}) {
            due.is("right behind the kind " + kind, 4, pile(kind, NOTE).faults(1));
        }
        faultsAre(due, "a figure needs no note", pile(FIGURE, FIGURE, TEXT), 0, 0, 0);
        Run x = pile(FIGURE, TEXT, NOTE);
        x.tie(0, 2);
        faultsAre(due, "right behind in the order, not on the page", x, 0, 0, 0);
    }

    /** A box of the size 10 and 10 at 20, 20, and another one. */
    private static void commonIs(Due due, int want, int left, int top, int width, int height) {
        Run x = new Run();
        x.box(3, 20, 20, 10, 10, TEXT);
        x.box(3, left, top, width, height, TEXT);
        String what = left + ", " + top + ", " + width + ", " + height;
        due.is("the first one beside " + what, want, x.faults(0) & 8);
        due.is("the one at " + what, want, x.faults(1) & 8);
    }

    private static void placesInCommon(Due due) {
        commonIs(due, 0, 10, 20, 10, 10);
        commonIs(due, 8, 10, 20, 11, 10);
        commonIs(due, 0, 30, 20, 10, 10);
        commonIs(due, 8, 29, 20, 10, 10);
        commonIs(due, 0, 20, 10, 10, 10);
        commonIs(due, 8, 20, 10, 10, 11);
        commonIs(due, 0, 20, 30, 10, 10);
        commonIs(due, 8, 20, 29, 10, 10);
        commonIs(due, 0, 10, 10, 10, 10);
        commonIs(due, 8, 10, 10, 11, 11);
        commonIs(due, 0, 10, 10, 11, 10);
        commonIs(due, 0, 10, 10, 10, 11);
        commonIs(due, 0, 30, 30, 10, 10);
        commonIs(due, 8, 29, 29, 10, 10);
        commonIs(due, 8, 20, 20, 10, 10);
        commonIs(due, 8, 24, 24, 1, 1);
        commonIs(due, 8, 0, 0, 60, 80);
        commonIs(due, 8, 0, 24, 60, 1);
        commonIs(due, 8, 24, 0, 1, 80);
        commonIs(due, 0, 0, 0, 20, 80);
        commonIs(due, 0, 30, 0, 30, 80);
        commonIs(due, 0, 0, 0, 60, 20);
        commonIs(due, 0, 0, 30, 60, 50);
        Run x = new Run();
        x.box(3, 20, 20, 10, 10, TEXT);
        x.box(4, 20, 20, 10, 10, TEXT);
        faultsAre(due, "on another page", x, 0, 0);
        x.box(3, 25, 25, 10, 10, TEXT);
        x.tie(0, 2);
        faultsAre(due, "tied", x, 8, 0, 8);
        x.remove(2);
        due.is("gone", 0, x.faults(0));
        Run far = column(3, 23);
        far.box(3, 10, 0, 1, 80, TEXT);
        due.is("the last box and all others", 24, far.faulty(3));
    }

    private static void gaps(Due due) {
        Run x = new Run();
        x.box(3, 0, 79, 1, 1, TEXT);
        due.is("the first one of its page", 0, x.faults(0));
        x.box(3, 0, 0, 60, 30, TEXT);
        x.move(0, 0, 50);
        due.is("20 below", 0, x.faults(0));
        x.move(0, 0, 51);
        due.is("21 below", 16, x.faults(0));
        due.is("the box ahead", 0, x.faults(1));
        x.resize(1, 60, 31);
        due.is("20 below, now", 0, x.faults(0));
        x.resize(1, 60, 1);
        due.is("50 below", 16, x.faults(0));
        x.box(3, 0, 30, 1, 1, TEXT);
        due.is("the box right ahead counts", 0, x.faults(0));
        due.is("it is far below, itself", 16, x.faults(2));
        x.tie(0, 1);
        due.is("above the box right ahead", 0, x.faults(1));
        due.is("20 below, in that order", 0, x.faults(0));
        Run y = new Run();
        y.box(4, 0, 0, 1, 1, TEXT);
        y.box(3, 0, 79, 1, 1, TEXT);
        due.is("the first one of its page, though not the first box", 0, y.faults(1));
    }

    private static void way(Due due) {
        Run x = new Run();
        x.box(3, 10, 10, 2, 2, TEXT);
        due.is("one box", 0, x.way(3));
        x.box(3, 17, 10, 2, 2, TEXT);
        due.is("by width", 7, x.way(3));
        x.move(1, 10, 21);
        due.is("by height", 11, x.way(3));
        x.move(1, 17, 21);
        due.is("by both, together", 18, x.way(3));
        x.move(1, 3, 21);
        due.is("back to the left", 18, x.way(3));
        x.tie(1, 0);
        due.is("back up", 18, x.way(3));
        x.box(3, 3, 61, 2, 2, TEXT);
        due.is("to each next one, not from the first", 18 + 7 + 51, x.way(3));
        x.box(4, 50, 70, 2, 2, TEXT);
        due.is("another page's boxes are not on it", 18 + 7 + 51, x.way(3));
    }

    private static void middle(Due due) {
        int[] halves = {0, 1, 1, 2, 2, 3};
        for (int size = 1; size <= 6; size++) {
            Run x = new Run();
            x.box(3, 0, 0, 1, 1, TEXT);
            x.box(3, 11, 30, size, 1, TEXT);
            due.is("the width " + size, 11 + halves[size - 1] + 30, x.way(3));
            x.resize(1, 1, size);
            due.is("the height " + size, 11 + 30 + halves[size - 1], x.way(3));
            x.remove(0);
            x.box(3, 20, 60, 1, 1, TEXT);
            due.is("the height " + size + ", from there", 9 + 30 - halves[size - 1], x.way(3));
        }
        Run whole = new Run();
        whole.box(3, 0, 0, 60, 80, TEXT);
        whole.box(3, 59, 79, 1, 1, TEXT);
        due.is("from the middle of the page to its last corner", 29 + 39, whole.way(3));
    }

    // Approvals

    private static void approvalNumbers(Due due) {
        Run x = pages();
        for (int number = 0; number < 20; number++) {
            due.is("approve", number, x.approve(number % 6, number % 5));
            due.is("it stands", true, x.stands(number));
        }
        due.fails("the 21st", STATE, x, r -> r.approve(0, 0));
        due.fails("stands(20)", INDEX, x, r -> r.stands(20) ? 1 : 0);
        due.fails("stands(-1)", INDEX, x, r -> r.stands(-1) ? 1 : 0);
        due.are("the order of the page is the same", "10 11 12 13 14", Look.reading(x, 4));
        due.is("all of the last page fall", 4, x.tie(14, 10));
        due.fails("the 21st, when some have fallen", STATE, x, r -> r.approve(0, 0));
        due.is("the last number", false, x.stands(19));
        due.is("the first number", true, x.stands(0));
    }

    private static void approvalsFall(Due due) {
        Run x = column(1, 3);
        x.box(2, 0, 0, 1, 1, TEXT);
        x.approve(5, 2);
        x.approve(0, 1);
        x.box(1, 10, 78, 20, 2, TEXT);
        due.is("a box more, read last", false, x.stands(1));
        x.remove(4);
        due.is("the same boxes in the same order once more", false, x.stands(1));
        x.approve(0, 1);
        x.remove(2);
        due.is("a box less, read last", false, x.stands(2));
        x.approve(0, 1);
        x.tie(1, 0);
        due.is("the same boxes otherwise", false, x.stands(3));
        x.untie(0);
        due.is("as it was", false, x.stands(3));
        x.approve(0, 1);
        x.move(0, 10, 60);
        x.move(0, 10, 0);
        due.is("there and back", false, x.stands(4));
        x.approve(0, 1);
        x.box(1, 10, 0, 20, 2, TEXT);
        x.remove(0);
        due.is("another box where one was", false, x.stands(5));
        x.approve(0, 1);
        due.is("a new one stands", true, x.stands(6));
        for (int fallen = 1; fallen < 6; fallen++) {
            due.is("stands(" + fallen + ") after all that", false, x.stands(fallen));
        }
        due.is("of another page", true, x.stands(0));
        x.remove(3);
        due.is("the only box of that page is gone", false, x.stands(0));
    }

    private static void noMatter(Due due) {
        Run x = column(1, 2);
        x.box(1, 10, 8, 20, 2, NOTE);
        x.approve(0, 1);
        due.is("a fault that there was", 4, x.faults(2));
        x.move(1, 10, 7);
        due.is("a place in common", 4 | 8, x.faults(2));
        x.move(2, 10, 30);
        due.is("a gap", 4 | 16, x.faults(2));
        x.resize(2, 1, 1);
        x.resize(0, 50, 7);
        x.move(1, 40, 9);
        x.move(2, 59, 79);
        due.is("it stands", true, x.stands(0));
        due.is("the person has approved the page", 1, x.approvers(1));
        x.tie(0, 1);
        x.tie(1, 2);
        x.untie(1);
        due.is("ties that let it be read as it is", true, x.stands(0));
        x.box(2, 0, 0, 60, 80, TEXT);
        x.move(3, 0, 0);
        x.remove(3);
        due.is("what is on another page", true, x.stands(0));
    }

    /** Ties, a box that is gone, and approvals, one of which has fallen. */
    private static Run rich() {
        Run x = column(1, 5);
        x.box(2, 10, 10, 20, 20, FIGURE);
        x.box(2, 10, 40, 20, 20, NOTE);
        x.approve(0, 1);
        x.tie(1, 3);
        x.tie(3, 0);
        x.remove(4);
        x.approve(1, 1);
        x.approve(2, 2);
        return x;
    }

    private static final int[] REFUSED_NUMBERS = {-1, 4, 7, 24, MIN, MAX};

    private static void refuseAll(Due due, Run x) {
        for (int wrong : REFUSED_NUMBERS) {
            all(due, INDEX, () -> x.move(wrong, 0, 0), () -> x.resize(wrong, 1, 1), () -> x.remove(wrong),
                    () -> x.tie(wrong, 1), () -> x.tie(2, wrong), () -> x.untie(wrong), () -> x.breaks(wrong, 0, 0),
                    () -> x.placeOf(wrong), () -> x.faults(wrong));
            if (wrong != 4) {
                int page = wrong == -1 || wrong == MIN ? wrong : Math.max(5, wrong);
                all(due, INDEX, () -> x.box(page, 0, 0, 1, 1, TEXT), () -> x.approve(0, page),
                        () -> x.approve(wrong, 1), () -> x.order(page, 0), () -> x.orderAnew(page, 0),
                        () -> x.about(wrong, 0), () -> x.stands(wrong) ? 1 : 0);
            }
        }
        for (int wrong : new int[] {-1, 79, MIN, MAX}) {
            all(due, ARGUMENT, () -> x.box(1, wrong, 0, 1, 2, TEXT), () -> x.box(1, 0, wrong, 1, 2, TEXT),
                    () -> x.move(2, wrong, 0), () -> x.move(2, 0, wrong), () -> x.breaks(2, wrong, 0),
                    () -> x.breaks(2, 0, wrong), () -> x.resize(2, wrong, 1), () -> x.resize(2, 1, wrong),
                    () -> x.box(1, 0, 0, 1, 1, wrong), () -> x.about(2, wrong));
        }
        all(due, ARGUMENT, () -> x.tie(2, 5), () -> x.tie(2, 2), () -> x.tie(6, 2));
        all(due, STATE, () -> x.tie(1, 2), () -> x.tie(2, 0), () -> x.tie(0, 1), () -> x.tie(1, 3), () -> x.untie(1),
                () -> x.untie(2), () -> x.approve(0, 0), () -> x.approve(5, 4));
    }

    private static void all(Due due, Class<? extends RuntimeException> want, Due.Call... calls) {
        for (int n = 0; n < calls.length; n++) {
            due.are("refused call " + n, want.getName(), Due.outcome(calls[n]));
        }
    }

    private static void throwingChangesNothing(Due due) {
        Run shown = rich();
        refuseAll(due, shown);
        due.are("what it shows after all that is refused", Look.at(rich()), Look.at(shown));
        Run changed = rich();
        refuseAll(due, changed);
        due.are("what later calls do after all that is refused", Look.after(rich()), Look.after(changed));
        Run full = column(1, 24);
        for (int number = 0; number < 20; number++) {
            full.approve(number % 6, 1);
        }
        due.fails("a 25th box", STATE, full, r -> r.box(1, 0, 0, 1, 1, TEXT));
        due.fails("a 25th box, on another page", STATE, full, r -> r.box(2, 0, 0, 1, 1, TEXT));
        due.fails("a 21st approval", STATE, full, r -> r.approve(0, 1));
    }

    /** Of two exceptions that are due, the first one of the clause; each of the two is due alone, too. */
    private static void firstNamed(Due due) {
        Run few = rich();
        Run full = column(1, 24);
        full.tie(0, 1);
        full.remove(23);
        for (int number = 0; number < 20; number++) {
            full.approve(0, 1);
        }
        due.fails("box: no page, and no kind", INDEX, few, r -> r.box(5, 0, 0, 1, 1, 7));
        due.fails("box: no page, and not within it", INDEX, few, r -> r.box(-1, -1, 0, 61, 1, TEXT));
        due.fails("box: no page, and there were 24", INDEX, full, r -> r.box(5, 0, 0, 1, 1, TEXT));
        due.fails("box: no kind, and there were 24", ARGUMENT, full, r -> r.box(1, 0, 0, 1, 1, 7));
        due.fails("box: not within the page, and there were 24", ARGUMENT, full, r -> r.box(1, 0, 80, 1, 1, TEXT));
        due.fails("box: all three", INDEX, full, r -> r.box(5, 0, 80, 1, 1, 7));
        due.fails("box: there were 24", STATE, full, r -> r.box(1, 0, 0, 1, 1, TEXT));
        for (int none : new int[] {-1, 4, 7}) {
            due.fails("move: no box, and not within the page", INDEX, few, r -> r.move(none, 60, 80));
            due.fails("resize: no box, and not within the page", INDEX, few, r -> r.resize(none, 0, 81));
            due.fails("breaks: no box, and not within the page", INDEX, few, r -> r.breaks(none, -1, 80));
            due.fails("tie: no box, and the same one", INDEX, few, r -> r.tie(none, none));
            due.fails("tie: no box, and the first one leads another one", INDEX, few, r -> r.tie(1, none));
            due.fails("tie: no box, and the second one follows another one", INDEX, few, r -> r.tie(none, 3));
            due.fails("tie: no box, and none of that page", INDEX, few, r -> r.tie(5, none));
            due.fails("untie: no box, and it follows none", INDEX, few, r -> r.untie(none));
        }
        due.fails("about: no box, and nothing that is told", INDEX, few, r -> r.about(7, 9));
        due.fails("about: nothing that is told", ARGUMENT, few, r -> r.about(4, 9));
        due.fails("tie: the same box, that leads", ARGUMENT, few, r -> r.tie(1, 1));
        due.fails("tie: the same box, that follows", ARGUMENT, few, r -> r.tie(0, 0));
        due.fails("tie: the same box, that does both", ARGUMENT, few, r -> r.tie(3, 3));
        due.fails("tie: unlike pages, and the first one leads", ARGUMENT, few, r -> r.tie(1, 5));
        due.fails("tie: unlike pages, and the second one follows", ARGUMENT, few, r -> r.tie(5, 0));
        due.fails("approve: no person, and no box", INDEX, few, r -> r.approve(6, 0));
        due.fails("approve: no page, and so no box", INDEX, few, r -> r.approve(0, 5));
        due.fails("approve: no person, and there were 20", INDEX, full, r -> r.approve(-1, 1));
        due.fails("approve: no page, and there were 20", INDEX, full, r -> r.approve(0, -1));
        due.fails("approve: no box, and there were 20", STATE, full, r -> r.approve(0, 0));
    }

    private static void none(Due due) {
        due.is("NONE", -1, Readingorder.NONE);
        Run x = column(1, 1);
        due.is("order of a place without a box", -1, x.order(1, 1));
        due.is("orderAnew of a place without a box", -1, x.orderAnew(1, 1));
        due.is("what it follows", -1, x.about(0, 6));
        due.is("what it leads", -1, x.about(0, 7));
    }

    private static void kindNumbers(Due due) {
        int[] kinds = {Readingorder.TEXT, Readingorder.ITEM, Readingorder.FIGURE, Readingorder.NOTE, Readingorder.HEAD_1,
            Readingorder.HEAD_2, Readingorder.HEAD_3};
        for (int number = 0; number < kinds.length; number++) {
            due.is("the constant that is number " + number, number, kinds[number]);
        }
    }
}
