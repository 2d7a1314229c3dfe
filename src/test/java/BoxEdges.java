import java.util.Arrays;

/** Promises 1 to 7, sentence by sentence. */
final class BoxEdges extends Edges {

    static void addTo(Sentences all) {
        all.add("Promise 1", "No boxes, no approvals.", BoxEdges::aNewObject);
        all.add("Promise 2", "Puts a box on a page.", BoxEdges::boxPuts);
        all.add("Promise 2", "`page`: 0 to 4", BoxEdges::boxPage);
        all.add("Promise 2", "`left`: from 0", BoxEdges::boxLeft);
        all.add("Promise 2", "`top`: from 0", BoxEdges::boxTop);
        all.add("Promise 2", "`width`: from 1", BoxEdges::boxWidth);
        all.add("Promise 2", "`height`: from 1", BoxEdges::boxHeight);
        all.add("Promise 2", "`kind`: TEXT to HEAD_3", BoxEdges::boxKind);
        all.add("Promise 2", "Returns its number.", BoxEdges::boxNumber);
        all.add("Promise 2", "Throws `IndexOutOfBoundsException` if there is no such page", BoxEdges::boxNoPage);
        all.add("Promise 2", "Throws `IllegalArgumentException` if kind is out of range, or it is not within the page",
                BoxEdges::boxOutside);
        all.add("Promise 2", "Throws `IllegalStateException` if there were 24", BoxEdges::boxFull);

        all.add("Promise 3", "Moves a box within its page.", BoxEdges::moveMoves);
        all.add("Promise 3", "`box`: its number", BoxEdges::moveNumber);
        all.add("Promise 3", "`left`: from 0", BoxEdges::moveLeft);
        all.add("Promise 3", "`top`: from 0", BoxEdges::moveTop);
        all.add("Promise 3", "Returns how many approvals fall by that.", BoxEdges::moveFells);
        all.add("Promise 3", "Throws `IndexOutOfBoundsException` if there is no such box, or it is gone",
                BoxEdges::moveNoBox);
        all.add("Promise 3", "Throws `IllegalArgumentException` if it would not be within the page",
                BoxEdges::moveOutside);

        all.add("Promise 4", "Makes a box of another size.", BoxEdges::resizeResizes);
        all.add("Promise 4", "`box`: its number", BoxEdges::resizeNumber);
        all.add("Promise 4", "`width`: from 1", BoxEdges::resizeWidth);
        all.add("Promise 4", "`height`: from 1", BoxEdges::resizeHeight);
        all.add("Promise 4", "Returns how many approvals fall by that.", BoxEdges::resizeFells);
        all.add("Promise 4", "Throws `IndexOutOfBoundsException` if there is no such box, or it is gone",
                BoxEdges::resizeNoBox);
        all.add("Promise 4", "Throws `IllegalArgumentException` if it would not be within the page",
                BoxEdges::resizeOutside);

        all.add("Promise 5", "Removes a box; what it led, and what led it, are not tied to it any more, nor to one another.",
                BoxEdges::removeLoosens);
        all.add("Promise 5", "`box`: its number", BoxEdges::removeNumber);
        all.add("Promise 5", "Returns how many approvals fall by that.", BoxEdges::removeFells);
        all.add("Promise 5", "Throws `IndexOutOfBoundsException` if there is no such box, or it is gone",
                BoxEdges::removeNoBox);

        all.add("Promise 6", "Ties a box behind another one.", BoxEdges::tieTies);
        all.add("Promise 6", "`box`: the one that leads", BoxEdges::tieLeader);
        all.add("Promise 6", "`behind`: the one that follows", BoxEdges::tieFollower);
        all.add("Promise 6", "Returns how many approvals fall by that.", BoxEdges::tieFells);
        all.add("Promise 6", "Throws `IndexOutOfBoundsException` if there is no such box, of either, or it is gone",
                BoxEdges::tieNoBox);
        all.add("Promise 6", "Throws `IllegalArgumentException` if they are on unlike pages, or the same box",
                BoxEdges::tieUnlike);
        all.add("Promise 6", "Throws `IllegalStateException` if the first one leads another one, the second one follows"
                + " another one, or a box would follow itself", BoxEdges::tieTaken);

        all.add("Promise 7", "Unties a box from that which it follows.", BoxEdges::untieUnties);
        all.add("Promise 7", "`box`: its number", BoxEdges::untieNumber);
        all.add("Promise 7", "Returns how many approvals fall by that.", BoxEdges::untieFells);
        all.add("Promise 7", "Throws `IndexOutOfBoundsException` if there is no such box, or it is gone",
                BoxEdges::untieNoBox);
        all.add("Promise 7", "Throws `IllegalStateException` if it follows none", BoxEdges::untieNone);
    }

    // Promise 1

    private static void aNewObject(Due due) {
        Run x = new Run();
        for (int page = 0; page < 5; page++) {
            due.is("boxes(" + page + ")", 0, x.boxes(page));
            due.is("order(" + page + ", 0)", NONE, x.order(page, 0));
            due.is("orderAnew(" + page + ", 0)", NONE, x.orderAnew(page, 0));
            due.is("way(" + page + ")", 0, x.way(page));
            due.is("faulty(" + page + ")", 0, x.faulty(page));
            due.is("approvers(" + page + ")", 0, x.approvers(page));
        }
        refuses(due, "about", INDEX, x, (r, box) -> r.about(box, 8), 0, 23);
        refuses(due, "stands", INDEX, x, (r, approval) -> r.stands(approval) ? 1 : 0, 0, 19);
        due.is("the first box", 0, x.box(0, 0, 0, 1, 1, TEXT));
        due.is("the first approval", 0, x.approve(0, 0));
    }

    // Promise 2

    /** The box is put, and shows what it was put with. */
    private static void taken(Due due, Run scene, int... a) {
        Run x = scene.again();
        int before = x.boxes(a[0]);
        int number = x.box(a[0], a[1], a[2], a[3], a[4], a[5]);
        String call = "box" + Arrays.toString(a);
        for (int what = 0; what < 6; what++) {
            due.is(call + ": about(" + number + ", " + what + ")", a[what], x.about(number, what));
        }
        due.is(call + ": gone", 0, x.about(number, 8));
        due.is(call + ": boxes", before + 1, x.boxes(a[0]));
    }

    private static void refused(Due due, Class<? extends RuntimeException> want, Run scene, int... a) {
        due.fails("box" + Arrays.toString(a), want, scene, r -> r.box(a[0], a[1], a[2], a[3], a[4], a[5]));
    }

    private static void boxPuts(Due due) {
        Run x = column(3, 2);
        x.box(3, 5, 40, 7, 9, NOTE);
        int[] want = {3, 5, 40, 7, 9, NOTE, NONE, NONE, 0};
        for (int what = 0; what < want.length; what++) {
            due.is("about(2, " + what + ")", want[what], x.about(2, what));
        }
        due.are("the page", "0 1 2", Look.reading(x, 3));
        due.are("another page", "", Look.reading(x, 2));
        due.is("where another one is, too", 3, x.box(3, 5, 40, 7, 9, NOTE));
        due.are("the page", "0 1 2 3", Look.reading(x, 3));
    }

    private static void boxPage(Due due) {
        Run x = new Run();
        for (int page = 0; page <= 4; page++) {
            taken(due, x, page, 7, 9, 5, 3, TEXT);
        }
        refused(due, INDEX, x, -1, 7, 9, 5, 3, TEXT);
        refused(due, INDEX, x, 5, 7, 9, 5, 3, TEXT);
    }

    private static void boxLeft(Due due) {
        Run x = column(0, 1);
        taken(due, x, 0, 0, 9, 5, 3, TEXT);
        taken(due, x, 0, 1, 9, 5, 3, TEXT);
        refused(due, ARGUMENT, x, 0, -1, 9, 5, 3, TEXT);
        refused(due, ARGUMENT, x, 0, -5, 9, 5, 3, TEXT);
        refused(due, ARGUMENT, x, 0, -1, 9, 61, 3, TEXT);
        for (int left : new int[] {MIN, MIN + 1}) {
            refused(due, ARGUMENT, x, 0, left, 9, 5, 3, TEXT);
            refused(due, ARGUMENT, x, 0, left, 9, MAX, 3, TEXT);
        }
    }

    private static void boxTop(Due due) {
        Run x = column(0, 1);
        taken(due, x, 0, 7, 0, 5, 3, TEXT);
        taken(due, x, 0, 7, 1, 5, 3, TEXT);
        refused(due, ARGUMENT, x, 0, 7, -1, 5, 3, TEXT);
        refused(due, ARGUMENT, x, 0, 7, -3, 5, 3, TEXT);
        refused(due, ARGUMENT, x, 0, 7, -1, 5, 81, TEXT);
        for (int top : new int[] {MIN, MIN + 1}) {
            refused(due, ARGUMENT, x, 0, 7, top, 5, 3, TEXT);
            refused(due, ARGUMENT, x, 0, 7, top, 5, MAX, TEXT);
        }
    }

    private static void boxWidth(Due due) {
        Run x = column(0, 1);
        taken(due, x, 0, 7, 9, 1, 3, TEXT);
        taken(due, x, 0, 7, 9, 2, 3, TEXT);
        for (int left : new int[] {0, 7, 59, 60}) {
            for (int width : new int[] {0, -1, MIN, MIN + 1}) {
                refused(due, ARGUMENT, x, 0, left, 9, width, 3, TEXT);
            }
        }
    }

    private static void boxHeight(Due due) {
        Run x = column(0, 1);
        taken(due, x, 0, 7, 9, 5, 1, TEXT);
        taken(due, x, 0, 7, 9, 5, 2, TEXT);
        for (int top : new int[] {0, 9, 79, 80}) {
            for (int height : new int[] {0, -1, MIN, MIN + 1}) {
                refused(due, ARGUMENT, x, 0, 7, top, 5, height, TEXT);
            }
        }
    }

    private static void boxKind(Due due) {
        Run x = column(0, 1);
        for (int kind = TEXT; kind <= HEAD_3; kind++) {
            taken(due, x, 0, 7, 9, 5, 3, kind);
        }
        for (int kind : far(-1, 7)) {
            refused(due, ARGUMENT, x, 0, 7, 9, 5, 3, kind);
        }
    }

    private static void boxNumber(Due due) {
        Run x = new Run();
        for (int number = 0; number < 24; number++) {
            due.is("box, on any page", number, x.box(number * 3 % 5, 0, 0, 1, 1, number % 7));
        }
        Run y = column(2, 3);
        y.remove(1);
        due.is("box, after one is gone", 3, y.box(2, 0, 0, 1, 1, TEXT));
        y.remove(3);
        due.is("box, after the last one is gone", 4, y.box(2, 0, 0, 1, 1, TEXT));
        due.is("about that number", 0, y.about(4, 8));
    }

    private static void boxNoPage(Due due) {
        refusesNoPage(due, "box on the page", (r, page) -> r.box(page, 0, 0, 1, 1, TEXT));
    }

    private static void boxOutside(Due due) {
        Run x = column(0, 1);
        taken(due, x, 0, 0, 0, 60, 80, TEXT);
        for (int at : new int[] {0, 1, 20, 59}) {
            taken(due, x, 0, at, 0, 60 - at, 1, TEXT);
            refused(due, ARGUMENT, x, 0, at, 0, 61 - at, 1, TEXT);
            taken(due, x, 0, 0, at, 1, 80 - at, TEXT);
            refused(due, ARGUMENT, x, 0, 0, at, 1, 81 - at, TEXT);
        }
        taken(due, x, 0, 0, 79, 1, 1, TEXT);
        refused(due, ARGUMENT, x, 0, 0, 79, 1, 2, TEXT);
        refused(due, ARGUMENT, x, 0, 60, 0, 1, 1, TEXT);
        refused(due, ARGUMENT, x, 0, 0, 80, 1, 1, TEXT);
        for (int much : new int[] {MAX - 1, MAX}) {
            refused(due, ARGUMENT, x, 0, 0, 0, much, 1, TEXT);
            refused(due, ARGUMENT, x, 0, 0, 0, 1, much, TEXT);
            refused(due, ARGUMENT, x, 0, 2, 0, much, 1, TEXT);
            refused(due, ARGUMENT, x, 0, 0, 2, 1, much, TEXT);
            refused(due, ARGUMENT, x, 0, much, 0, 2, 1, TEXT);
            refused(due, ARGUMENT, x, 0, 0, much, 1, 2, TEXT);
            refused(due, ARGUMENT, x, 0, much, 0, MAX, 1, TEXT);
            refused(due, ARGUMENT, x, 0, 0, much, 1, MAX, TEXT);
        }
        refused(due, ARGUMENT, x, 0, 0, 0, 1, 1, -1);
        refused(due, ARGUMENT, x, 0, 0, 0, 1, 1, 7);
    }

    private static void boxFull(Due due) {
        Run x = column(1, 23);
        due.is("the 24th", 23, x.again().box(4, 0, 0, 1, 1, TEXT));
        x.box(1, 10, 69, 20, 2, TEXT);
        refused(due, STATE, x, 1, 0, 0, 1, 1, TEXT);
        refused(due, STATE, x, 4, 0, 0, 1, 1, TEXT);
        x.remove(0);
        refused(due, STATE, x, 1, 0, 0, 1, 1, TEXT);
        x.remove(23);
        refused(due, STATE, x, 1, 0, 0, 1, 1, TEXT);
        for (int number = 1; number < 23; number++) {
            x.remove(number);
        }
        refused(due, STATE, x, 1, 0, 0, 1, 1, TEXT);
    }

    // Promise 3

    private static void moveMoves(Due due) {
        Run x = column(1, 3);
        x.tie(0, 1);
        Run y = x.again();
        y.move(1, 33, 44);
        int[] want = {1, 33, 44, 20, 2, TEXT, 0, NONE, 0};
        for (int what = 0; what < want.length; what++) {
            due.is("about(1, " + what + ")", want[what], y.about(1, what));
            due.is("about(0, " + what + ")", x.about(0, what), y.about(0, what));
            due.is("about(2, " + what + ")", x.about(2, what), y.about(2, what));
        }
        due.is("boxes", 3, y.boxes(1));
        y.move(0, 11, 60);
        due.are("the page", "2 0 1", Look.reading(y, 1));
        due.is("the left edge of the one that follows it", 33, y.about(1, 1));
        due.is("the top edge of the one that follows it", 44, y.about(1, 2));
        y.move(0, 10, 60);
        due.are("to where it is", "2 0 1", Look.reading(y, 1));
    }

    private static void moveNumber(Due due) {
        Run full = column(1, 24);
        for (int number = 0; number < 24; number++) {
            Run x = full.again();
            x.move(number, 3, 78);
            for (int other = 0; other < 24; other++) {
                due.is("after move(" + number + ", 3, 78): left edge of " + other, other == number ? 3 : 10,
                        x.about(other, 1));
            }
            due.is("and its place", 23, x.placeOf(number));
        }
        due.is("the last of three", 0, column(1, 3).move(2, 3, 78));
    }

    private static void moveLeft(Due due) {
        movesTo(due, column(1, 3), 0, 50);
        movesTo(due, column(1, 3), 1, 50);
        refuses(due, "move(1, ..)", ARGUMENT, column(1, 3), (r, left) -> r.move(1, left, 50), -1, -20, -21, MIN, MIN + 1);
    }

    private static void moveTop(Due due) {
        movesTo(due, column(1, 3), 30, 0);
        movesTo(due, column(1, 3), 30, 1);
        refuses(due, "move(1, 30, ..)", ARGUMENT, column(1, 3), (r, top) -> r.move(1, 30, top), -1, -2, -3, MIN, MIN + 1);
    }

    private static void movesTo(Due due, Run scene, int left, int top) {
        Run x = scene.again();
        x.move(1, left, top);
        due.is("move(1, " + left + ", " + top + "): its left edge", left, x.about(1, 1));
        due.is("move(1, " + left + ", " + top + "): its top edge", top, x.about(1, 2));
    }

    /** Three boxes on page 1, one below the other, and one on page 2. */
    private static Run threeAndOne() {
        Run x = column(1, 3);
        x.box(2, 0, 0, 20, 20, TEXT);
        return x;
    }

    private static void moveFells(Due due) {
        tellsHowManyFall(due, "move(0, 10, 60)", threeAndOne(), r -> r.move(0, 10, 60), r -> r.move(0, 10, 0));
        tellsThatNoneFalls(due, "move(0, 40, 1)", threeAndOne(), r -> r.move(0, 40, 1));
        tellsThatNoneFalls(due, "move(3, 40, 60)", threeAndOne(), r -> r.move(3, 40, 60));
    }

    private static void moveNoBox(Due due) {
        refusesNoBox(due, "move", (r, box) -> r.move(box, 0, 0));
    }

    private static void moveOutside(Due due) {
        Run x = column(1, 3);
        movesTo(due, x, 40, 0);
        movesTo(due, x, 0, 78);
        movesTo(due, x, 40, 78);
        refuses(due, "move(1, ..)", ARGUMENT, x, (r, left) -> r.move(1, left, 0), 41, 60, MAX, MAX - 1, MAX - 19, MAX - 20);
        refuses(due, "move(1, 0, ..)", ARGUMENT, x, (r, top) -> r.move(1, 0, top), 79, 80, MAX, MAX - 1, MAX - 2);
        x.resize(1, 1, 1);
        movesTo(due, x, 59, 79);
        refuses(due, "move(1, .., 79), 1 wide", ARGUMENT, x, (r, left) -> r.move(1, left, 79), 60, MAX);
        refuses(due, "move(1, 59, ..), 1 high", ARGUMENT, x, (r, top) -> r.move(1, 59, top), 80, MAX);
        x.move(1, 0, 0);
        x.resize(1, 60, 80);
        movesTo(due, x, 0, 0);
        refuses(due, "move(1, .., 0), as wide as the page", ARGUMENT, x, (r, left) -> r.move(1, left, 0), 1, MAX);
        refuses(due, "move(1, 0, ..), as high as the page", ARGUMENT, x, (r, top) -> r.move(1, 0, top), 1, MAX);
    }

    // Promise 4

    private static void resizeResizes(Due due) {
        Run x = column(1, 3);
        x.tie(0, 1);
        Run y = x.again();
        y.resize(1, 5, 44);
        int[] want = {1, 10, 3, 5, 44, TEXT, 0, NONE, 0};
        for (int what = 0; what < want.length; what++) {
            due.is("about(1, " + what + ")", want[what], y.about(1, what));
            due.is("about(0, " + what + ")", x.about(0, what), y.about(0, what));
            due.is("about(2, " + what + ")", x.about(2, what), y.about(2, what));
        }
        due.is("it is where the third one is, now", 8, y.faults(2));
        y.resize(1, 5, 3);
        due.is("it is not, any more", 0, y.faults(2));
    }

    private static void resizeNumber(Due due) {
        Run full = column(1, 24);
        for (int number = 0; number < 24; number++) {
            Run x = full.again();
            x.resize(number, 3, 1);
            for (int other = 0; other < 24; other++) {
                due.is("after resize(" + number + ", 3, 1): width of " + other, other == number ? 3 : 20,
                        x.about(other, 3));
            }
        }
        due.is("the last of three", 0, column(1, 3).resize(2, 3, 1));
    }

    private static void resizesTo(Due due, Run scene, int width, int height) {
        Run x = scene.again();
        x.resize(1, width, height);
        due.is("resize(1, " + width + ", " + height + "): its width", width, x.about(1, 3));
        due.is("resize(1, " + width + ", " + height + "): its height", height, x.about(1, 4));
    }

    private static void resizeWidth(Due due) {
        Run x = column(1, 3);
        resizesTo(due, x, 1, 5);
        resizesTo(due, x, 2, 5);
        refuses(due, "resize(1, ..)", ARGUMENT, x, (r, width) -> r.resize(1, width, 5), 0, -1, -10, MIN, MIN + 1);
    }

    private static void resizeHeight(Due due) {
        Run x = column(1, 3);
        resizesTo(due, x, 5, 1);
        resizesTo(due, x, 5, 2);
        refuses(due, "resize(1, 5, ..)", ARGUMENT, x, (r, height) -> r.resize(1, 5, height), 0, -1, -3, MIN, MIN + 1);
    }

    private static void resizeFells(Due due) {
        Run x = new Run();
        x.box(1, 0, 0, 30, 40, TEXT);
        x.box(1, 30, 0, 30, 40, TEXT);
        x.box(1, 0, 40, 30, 40, TEXT);
        x.box(2, 0, 0, 20, 20, TEXT);
        tellsHowManyFall(due, "resize(0, 30, 41)", x, r -> r.resize(0, 30, 41), r -> r.resize(0, 30, 40));
        tellsThatNoneFalls(due, "resize(0, 1, 1)", x, r -> r.resize(0, 1, 1));
        tellsThatNoneFalls(due, "resize(3, 60, 80)", x, r -> r.resize(3, 60, 80));
    }

    private static void resizeNoBox(Due due) {
        refusesNoBox(due, "resize", (r, box) -> r.resize(box, 1, 1));
    }

    private static void resizeOutside(Due due) {
        Run x = column(1, 3);
        resizesTo(due, x, 50, 1);
        resizesTo(due, x, 1, 77);
        resizesTo(due, x, 50, 77);
        refuses(due, "resize(1, ..)", ARGUMENT, x, (r, width) -> r.resize(1, width, 1),
                51, 60, MAX, MAX - 1, MAX - 9, MAX - 10);
        refuses(due, "resize(1, 1, ..)", ARGUMENT, x, (r, height) -> r.resize(1, 1, height),
                78, 80, MAX, MAX - 1, MAX - 2, MAX - 3);
        x.resize(1, 1, 1);
        x.move(1, 59, 79);
        resizesTo(due, x, 1, 1);
        refuses(due, "resize(1, .., 1), in the last corner", ARGUMENT, x, (r, width) -> r.resize(1, width, 1), 2, MAX);
        refuses(due, "resize(1, 1, ..), in the last corner", ARGUMENT, x, (r, height) -> r.resize(1, 1, height), 2, MAX);
        x.move(1, 0, 0);
        resizesTo(due, x, 60, 80);
        refuses(due, "resize(1, .., 80), in the first corner", ARGUMENT, x, (r, width) -> r.resize(1, width, 80), 61, MAX);
        refuses(due, "resize(1, 60, ..), in the first corner", ARGUMENT, x, (r, height) -> r.resize(1, 60, height), 81, MAX);
    }

    // Promise 5

    private static void removeLoosens(Due due) {
        Run x = column(1, 4);
        x.tie(3, 2);
        x.tie(2, 1);
        x.tie(1, 0);
        due.are("a chain of all", "3 2 1 0", Look.reading(x, 1));
        String[] rest = {"3 2 1", "0 3 2", "1 0 3", "2 1 0"};
        for (int gone = 0; gone < 4; gone++) {
            Run y = x.again();
            y.remove(gone);
            due.is("it is gone", 1, y.about(gone, 8));
            for (int other = 0; other < 4; other++) {
                boolean follows = other != 3 && other != gone && other + 1 != gone;
                boolean leads = other != 0 && other != gone && other - 1 != gone;
                due.is(gone + " is gone: what " + other + " follows", follows ? other + 1 : NONE, y.about(other, 6));
                due.is(gone + " is gone: what " + other + " leads", leads ? other - 1 : NONE, y.about(other, 7));
            }
            due.are(gone + " is gone: the page", rest[gone], Look.reading(y, 1));
        }
        x.remove(1);
        due.fails("untie what it led", STATE, x, r -> r.untie(0));
        due.is("tie what led it, and what it led", 0, x.tie(2, 0));
        Run z = column(1, 1);
        z.remove(0);
        due.are("the only one is gone", "", Look.reading(z, 1));
    }

    private static void removeNumber(Due due) {
        Run full = column(1, 24);
        for (int number = 0; number < 24; number++) {
            Run x = full.again();
            x.remove(number);
            for (int other = 0; other < 24; other++) {
                due.is("after remove(" + number + "): whether " + other + " is gone", other == number ? 1 : 0,
                        x.about(other, 8));
            }
            due.is("boxes", 23, x.boxes(1));
        }
        due.is("the last of three", 0, column(1, 3).remove(2));
    }

    private static void removeFells(Due due) {
        tellsHowManyFall(due, "remove(0)", threeAndOne(), r -> r.remove(0), r -> r.remove(2));
        tellsHowManyFall(due, "remove(2), the last one read", threeAndOne(), r -> r.remove(2), r -> r.remove(1));
        tellsThatNoneFalls(due, "remove(3)", threeAndOne(), r -> r.remove(3));
        Run x = column(1, 1);
        x.approve(0, 1);
        due.is("remove the only one", 1, x.remove(0));
        due.is("it has fallen", false, x.stands(0));
    }

    private static void removeNoBox(Due due) {
        refusesNoBox(due, "remove", (r, box) -> r.remove(box));
    }

    // Promise 6

    private static void tieTies(Due due) {
        Run x = column(1, 4);
        x.tie(2, 0);
        due.are("0 behind 2", "1 2 0 3", Look.reading(x, 1));
        x.tie(3, 2);
        due.are("2, and what follows it, behind 3", "1 3 2 0", Look.reading(x, 1));
        x.tie(0, 1);
        due.are("1 behind the last of them", "3 2 0 1", Look.reading(x, 1));
    }

    private static void tieLeader(Due due) {
        Run full = column(1, 24);
        for (int leader : new int[] {0, 11, 23}) {
            Run x = full.again();
            x.tie(leader, 12);
            for (int other = 0; other < 24; other++) {
                due.is("after tie(" + leader + ", 12): what " + other + " leads", other == leader ? 12 : NONE,
                        x.about(other, 7));
            }
            due.is("it is right ahead", x.placeOf(12) - 1, x.placeOf(leader));
        }
    }

    private static void tieFollower(Due due) {
        Run full = column(1, 24);
        for (int follower : new int[] {0, 13, 23}) {
            Run x = full.again();
            x.tie(12, follower);
            for (int other = 0; other < 24; other++) {
                due.is("after tie(12, " + follower + "): what " + other + " follows", other == follower ? 12 : NONE,
                        x.about(other, 6));
            }
            due.is("it is right behind", x.placeOf(12) + 1, x.placeOf(follower));
        }
    }

    private static void tieFells(Due due) {
        tellsHowManyFall(due, "tie(2, 0)", threeAndOne(), r -> r.tie(2, 0), r -> r.tie(0, 1));
        tellsThatNoneFalls(due, "tie(0, 1)", threeAndOne(), r -> r.tie(0, 1));
        Run x = threeAndOne();
        x.box(2, 0, 30, 20, 20, TEXT);
        tellsThatNoneFalls(due, "tie(4, 3)", x, r -> r.tie(4, 3));
    }

    private static void tieNoBox(Due due) {
        refusesNoBox(due, "tie as the one that leads", (r, box) -> r.tie(box, 1));
        refusesNoBox(due, "tie as the one that follows", (r, box) -> r.tie(1, box));
        refusesNoBox(due, "tie as both", (r, box) -> r.tie(box, box));
    }

    private static void tieUnlike(Due due) {
        Run x = pages();
        int[][] pairs = {{0, 0}, {0, 1}, {1, 0}, {2, 3}, {9, 10}, {10, 9}, {14, 14}, {14, 0}, {0, 14}};
        refuses(due, "tie", ARGUMENT, x, (r, box, behind) -> r.tie(box, behind), pairs);
        due.is("the first and the last of a page", 0, x.tie(10, 14));
    }

    private static void tieTaken(Due due) {
        Run x = column(1, 5);
        x.tie(1, 2);
        refuses(due, "tie", STATE, x, (r, box, behind) -> r.tie(box, behind),
                new int[][] {{1, 3}, {1, 0}, {3, 2}, {0, 2}, {1, 2}, {2, 1}});
        x.tie(2, 3);
        refuses(due, "tie in a chain of three", STATE, x, (r, box, behind) -> r.tie(box, behind),
                new int[][] {{3, 1}, {3, 2}, {2, 1}, {1, 3}, {1, 4}, {0, 3}});
        due.is("ahead of the first of a chain", 0, x.again().tie(0, 1));
        due.is("behind the last of a chain", 0, x.again().tie(3, 4));
        Run full = column(1, 24);
        for (int box = 0; box < 23; box++) {
            due.is("a chain of as many as there can be", 0, full.tie(box, box + 1));
        }
        refuses(due, "tie the last of 24", STATE, full, (r, behind) -> r.tie(23, behind), 0, 1, 12, 22);
        full.untie(12);
        refuses(due, "tie the last of 12", STATE, full, (r, behind) -> r.tie(23, behind), 12, 13, 22);
        due.is("tie it ahead of the other half", 0, full.tie(23, 0));
        refuses(due, "tie the last of that", STATE, full, (r, behind) -> r.tie(11, behind), 0, 12, 23);
    }

    // Promise 7

    private static void untieUnties(Due due) {
        Run x = column(1, 4);
        x.tie(3, 2);
        x.tie(2, 1);
        x.tie(1, 0);
        x.untie(1);
        int[] follows = {1, NONE, 3, NONE};
        int[] leads = {NONE, 0, NONE, 2};
        for (int box = 0; box < 4; box++) {
            due.is("what " + box + " follows", follows[box], x.about(box, 6));
            due.is("what " + box + " leads", leads[box], x.about(box, 7));
        }
        due.are("two chains", "1 0 3 2", Look.reading(x, 1));
        due.is("tied once more", 0, x.tie(2, 1));
        due.are("one chain", "3 2 1 0", Look.reading(x, 1));
    }

    private static void untieNumber(Due due) {
        Run chain = column(1, 24);
        for (int box = 0; box < 23; box++) {
            chain.tie(box + 1, box);
        }
        for (int number : new int[] {0, 11, 22}) {
            Run x = chain.again();
            x.untie(number);
            for (int other = 0; other < 24; other++) {
                due.is("after untie(" + number + "): what " + other + " follows",
                        other == number || other == 23 ? NONE : other + 1, x.about(other, 6));
            }
        }
        Run y = column(1, 24);
        y.tie(0, 23);
        due.is("the last number", 0, y.untie(23));
    }

    private static void untieFells(Due due) {
        Run x = threeAndOne();
        x.tie(2, 0);
        x.tie(0, 1);
        tellsHowManyFall(due, "untie(0)", x, r -> r.untie(0), r -> r.untie(1) + r.tie(2, 1) + r.tie(1, 0));
        Run y = threeAndOne();
        y.tie(0, 1);
        y.box(2, 0, 30, 20, 20, TEXT);
        y.tie(4, 3);
        tellsThatNoneFalls(due, "untie(1)", y, r -> r.untie(1));
        tellsThatNoneFalls(due, "untie(3)", y, r -> r.untie(3));
    }

    private static void untieNoBox(Due due) {
        refusesNoBox(due, "untie", (r, box) -> r.untie(box));
        Run x = column(1, 3);
        x.tie(0, 1);
        x.tie(1, 2);
        x.remove(1);
        refuses(due, "untie, when it is gone that followed", INDEX, x, (r, box) -> r.untie(box), 1);
    }

    private static void untieNone(Due due) {
        refuses(due, "untie without a tie", STATE, column(1, 24), (r, box) -> r.untie(box), 0, 1, 23);
        Run x = column(1, 4);
        x.tie(0, 1);
        x.tie(1, 2);
        refuses(due, "untie the first of a chain", STATE, x, (r, box) -> r.untie(box), 0, 3);
        x.untie(2);
        refuses(due, "untie once more", STATE, x, (r, box) -> r.untie(box), 2);
        x.tie(1, 2);
        x.remove(1);
        refuses(due, "untie from one that is gone", STATE, x, (r, box) -> r.untie(box), 0, 2);
    }
}
