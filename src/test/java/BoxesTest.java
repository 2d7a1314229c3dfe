/** Promises 2 to 7: boxes are put, moved, made of another size, removed, tied and untied. */
public final class BoxesTest {

    private static final Due due = new Due("BoxesTest");
    private static final Class<IndexOutOfBoundsException> INDEX = IndexOutOfBoundsException.class;
    private static final Class<IllegalArgumentException> ARGUMENT = IllegalArgumentException.class;
    private static final Class<IllegalStateException> STATE = IllegalStateException.class;
    private static final int MAX = Integer.MAX_VALUE;
    private static final int MIN = Integer.MIN_VALUE;

    public static void main(String[] args) {
        boxIsPut();
        boxTouchesTheEdgesOfThePage();
        boxRefusesWhatIsNotWithinThePage();
        boxRefusesTheTwentyFifth();
        boxNamesTheFirstException();
        boxLetsApprovalsFall();
        moveMoves();
        moveRefuses();
        moveTellsHowManyFall();
        resizeResizes();
        resizeRefuses();
        resizeTellsHowManyFall();
        removeRemoves();
        removeLoosensTies();
        removeTellsHowManyFall();
        tieTies();
        tieRefuses();
        tieTellsHowManyFall();
        untieUnties();
        untieTellsHowManyFall();
        due.end();
    }

    private static void are(String what, Run x, int box, int... want) {
        for (int k = 0; k < want.length; k++) {
            due.is(what + ": about(" + box + ", " + k + ")", want[k], x.about(box, k));
        }
    }

    /** One above the other on page 1: 0, 1, 2, each 10 high and 10 apart. */
    private static Run column() {
        Run x = new Run();
        x.box(1, 10, 0, 20, 10, 0);
        x.box(1, 10, 20, 20, 10, 0);
        x.box(1, 10, 40, 20, 10, 0);
        return x;
    }

    private static void boxIsPut() {
        Run x = new Run();
        due.is("the first number", 0, x.box(2, 3, 4, 5, 6, 1));
        due.is("the next number, on another page", 1, x.box(0, 7, 8, 9, 10, 6));
        are("box", x, 0, 2, 3, 4, 5, 6, 1, -1, -1, 0);
        are("box", x, 1, 0, 7, 8, 9, 10, 6, -1, -1, 0);
        x.remove(1);
        due.is("a number is not given once more", 2, x.box(0, 7, 8, 9, 10, 6));
        for (int kind = 0; kind <= 6; kind++) {
            int number = x.box(4, 0, 0, 1, 1, kind);
            due.is("kind", kind, x.about(number, 5));
        }
    }

    private static void boxTouchesTheEdgesOfThePage() {
        Run x = new Run();
        due.is("the whole page", 0, x.box(0, 0, 0, 60, 80, 0));
        due.is("the last corner", 1, x.box(4, 59, 79, 1, 1, 0));
        due.is("down to the bottom", 2, x.box(4, 0, 40, 1, 40, 0));
        due.is("up to the right", 3, x.box(4, 20, 0, 40, 1, 0));
    }

    private static void boxRefusesWhatIsNotWithinThePage() {
        Run x = new Run();
        x.box(0, 0, 0, 1, 1, 0);
        for (int page : new int[] {-1, 5, MIN, MAX}) {
            due.fails("page " + page, INDEX, x, r -> r.box(page, 0, 0, 1, 1, 0));
        }
        int[][] wrong = {
            {-1, 0, 1, 1, 0}, {0, -1, 1, 1, 0}, {0, 0, 0, 1, 0}, {0, 0, 1, 0, 0}, {0, 0, -1, 1, 0}, {0, 0, 1, -1, 0},
            {0, 0, 61, 1, 0}, {0, 0, 1, 81, 0}, {60, 0, 1, 1, 0}, {0, 80, 1, 1, 0}, {59, 0, 2, 1, 0}, {0, 79, 1, 2, 0},
            {0, 0, 1, 1, -1}, {0, 0, 1, 1, 7}, {0, 0, 1, 1, MIN}, {0, 0, 1, 1, MAX},
            {MAX, 0, MAX, 1, 0}, {0, MAX, 1, MAX, 0}, {1, 0, MAX, 1, 0}, {0, 1, 1, MAX, 0},
            {MIN, 0, MIN, 1, 0}, {0, MIN, 1, MIN, 0}, {MAX, 0, 1, 1, 0}, {0, MAX, 1, 1, 0},
            {-5, 0, 10, 1, 0}, {0, -5, 1, 10, 0}, {61, 0, 1, 1, 0}, {0, 81, 1, 1, 0}, {60, 0, 0, 1, 0}, {0, 80, 1, 0, 0},
        };
        for (int[] w : wrong) {
            due.fails("box " + java.util.Arrays.toString(w), ARGUMENT, x, r -> r.box(0, w[0], w[1], w[2], w[3], w[4]));
        }
    }

    private static void boxRefusesTheTwentyFifth() {
        Run x = new Run();
        for (int number = 0; number < 24; number++) {
            due.is("box", number, x.box(number % 5, 0, 0, 1, 1, 0));
        }
        due.fails("the 25th box", STATE, x, r -> r.box(0, 0, 0, 1, 1, 0));
        x.remove(3);
        due.fails("a box that is gone keeps its number", STATE, x, r -> r.box(0, 0, 0, 1, 1, 0));
    }

    private static void boxNamesTheFirstException() {
        Run x = new Run();
        for (int number = 0; number < 24; number++) {
            x.box(0, 0, 0, 1, 1, 0);
        }
        due.fails("page ahead of the rest", INDEX, x, r -> r.box(5, -1, 0, 1, 1, 9));
        due.fails("kind ahead of the number", ARGUMENT, x, r -> r.box(0, 0, 0, 1, 1, 7));
        due.fails("place ahead of the number", ARGUMENT, x, r -> r.box(0, 60, 0, 1, 1, 0));
    }

    private static void boxLetsApprovalsFall() {
        Run x = column();
        x.box(2, 0, 0, 1, 1, 0);
        x.approve(0, 1);
        x.approve(1, 2);
        x.box(1, 0, 70, 60, 1, 0);
        due.is("a box more lets the approval fall", false, x.stands(0));
        due.is("not that of another page", true, x.stands(1));
        due.are("behind the others", "0 1 2 4", Look.reading(x, 1));
    }

    private static void moveMoves() {
        Run x = column();
        due.is("move", 0, x.move(0, 40, 70));
        are("move", x, 0, 1, 40, 70, 20, 10, 0, -1, -1, 0);
        due.are("move", "1 2 0", Look.reading(x, 1));
        due.is("to the first corner", 0, x.move(0, 0, 0));
        are("move", x, 0, 1, 0, 0, 20, 10, 0, -1, -1, 0);
        due.are("back", "0 1 2", Look.reading(x, 1));
    }

    private static void moveRefuses() {
        Run x = column();
        x.remove(1);
        x.approve(3, 1);
        for (int box : new int[] {-1, 1, 3, 24, MIN, MAX}) {
            due.fails("box " + box, INDEX, x, r -> r.move(box, 0, 0));
            due.fails("box ahead of place", INDEX, x, r -> r.move(box, -1, 0));
        }
        int[][] wrong = {{-1, 0}, {0, -1}, {41, 0}, {0, 71}, {MAX, 0}, {0, MAX}, {MIN, 0}, {0, MIN}};
        for (int[] w : wrong) {
            due.fails("move(0, " + w[0] + ", " + w[1] + ")", ARGUMENT, x, r -> r.move(0, w[0], w[1]));
        }
    }

    private static void moveTellsHowManyFall() {
        Run x = column();
        x.box(2, 0, 0, 1, 1, 0);
        x.approve(0, 1);
        x.approve(1, 1);
        x.approve(1, 1);
        x.approve(1, 2);
        due.is("the order is the same", 0, x.move(0, 0, 0));
        due.is("the order is another one", 3, x.move(0, 0, 60));
        due.is("fallen", false, x.stands(2));
        due.is("another page", true, x.stands(3));
        due.is("what has fallen does not fall again", 0, x.move(0, 0, 0));
        due.is("what has fallen does not stand again", false, x.stands(0));
        x.approve(5, 1);
        due.is("the one that stands", 1, x.move(2, 0, 10));
    }

    private static void resizeResizes() {
        Run x = column();
        due.is("resize", 0, x.resize(2, 50, 40));
        are("resize", x, 2, 1, 10, 40, 50, 40, 0, -1, -1, 0);
        due.is("resize", 0, x.resize(2, 1, 1));
        are("resize", x, 2, 1, 10, 40, 1, 1, 0, -1, -1, 0);
    }

    private static void resizeRefuses() {
        Run x = column();
        x.remove(1);
        x.approve(3, 1);
        for (int box : new int[] {-1, 1, 3, 24, MIN, MAX}) {
            due.fails("box " + box, INDEX, x, r -> r.resize(box, 1, 1));
            due.fails("box ahead of size", INDEX, x, r -> r.resize(box, 0, 0));
        }
        int[][] wrong = {{0, 1}, {1, 0}, {-1, 1}, {1, -1}, {51, 1}, {1, 41}, {MAX, 1}, {1, MAX}, {MIN, 1}, {1, MIN}};
        for (int[] w : wrong) {
            due.fails("resize(2, " + w[0] + ", " + w[1] + ")", ARGUMENT, x, r -> r.resize(2, w[0], w[1]));
        }
    }

    private static void resizeTellsHowManyFall() {
        Run x = new Run();
        x.box(0, 0, 0, 30, 40, 0);
        x.box(0, 30, 0, 30, 40, 0);
        x.box(0, 0, 40, 30, 40, 0);
        x.approve(0, 0);
        x.approve(4, 0);
        due.is("the order is the same", 0, x.resize(2, 10, 10));
        due.is("no cut across any more", 2, x.resize(0, 30, 41));
        due.are("upright", "0 2 1", Look.reading(x, 0));
    }

    private static void removeRemoves() {
        Run x = column();
        due.is("remove", 0, x.remove(1));
        are("gone, the others as they were", x, 1, 1, 10, 20, 20, 10, 0, -1, -1, 1);
        due.are("the rest", "0 2", Look.reading(x, 1));
        for (int box : new int[] {-1, 1, 3, 24, MIN, MAX}) {
            due.fails("remove(" + box + ")", INDEX, x, r -> r.remove(box));
        }
        due.is("remove", 0, x.remove(0));
        due.is("remove", 0, x.remove(2));
        due.is("an empty page", 0, x.boxes(1));
    }

    private static void removeLoosensTies() {
        Run x = column();
        x.tie(2, 1);
        x.tie(1, 0);
        due.are("a chain", "2 1 0", Look.reading(x, 1));
        x.remove(1);
        are("the one in the middle", x, 1, 1, 10, 20, 20, 10, 0, -1, -1, 1);
        are("the one that led it", x, 2, 1, 10, 40, 20, 10, 0, -1, -1, 0);
        are("the one that it led", x, 0, 1, 10, 0, 20, 10, 0, -1, -1, 0);
        due.are("not tied to one another", "0 2", Look.reading(x, 1));
        due.fails("untie", STATE, x, r -> r.untie(0));
        due.is("tie anew", 0, x.tie(2, 0));
        due.are("tied anew", "2 0", Look.reading(x, 1));
    }

    private static void removeTellsHowManyFall() {
        Run x = column();
        x.box(0, 0, 0, 1, 1, 0);
        x.approve(0, 1);
        x.approve(1, 1);
        x.approve(2, 0);
        due.is("remove", 2, x.remove(2));
        due.is("another page", true, x.stands(2));
        due.is("the last one of a page", 1, x.remove(3));
        due.is("fallen", false, x.stands(2));
    }

    private static void tieTies() {
        Run x = column();
        due.is("tie", 0, x.tie(2, 0));
        due.is("what it leads", 0, x.about(2, 7));
        due.is("what it follows", 2, x.about(0, 6));
        due.is("what it does not follow", -1, x.about(2, 6));
        due.is("what it does not lead", -1, x.about(0, 7));
        due.are("tie", "1 2 0", Look.reading(x, 1));
        due.is("one that follows may lead", 0, x.tie(0, 1));
        due.are("tie", "2 0 1", Look.reading(x, 1));
        due.is("a box that follows is read there wherever it is", 0, x.move(1, 40, 0));
        due.are("tie", "2 0 1", Look.reading(x, 1));
    }

    private static void tieRefuses() {
        Run x = column();
        x.box(2, 0, 0, 1, 1, 0);
        x.box(1, 10, 60, 10, 10, 0);
        x.box(1, 10, 70, 10, 10, 0);
        x.remove(5);
        x.tie(0, 1);
        for (int box : new int[] {-1, 5, 6, 24, MIN, MAX}) {
            due.fails("the leading box " + box, INDEX, x, r -> r.tie(box, 2));
            due.fails("the following box " + box, INDEX, x, r -> r.tie(2, box));
            due.fails("both", INDEX, x, r -> r.tie(box, box));
        }
        due.fails("unlike pages", ARGUMENT, x, r -> r.tie(2, 3));
        due.fails("unlike pages", ARGUMENT, x, r -> r.tie(3, 2));
        due.fails("unlike pages ahead of what it leads", ARGUMENT, x, r -> r.tie(0, 3));
        due.fails("the same box", ARGUMENT, x, r -> r.tie(2, 2));
        due.fails("the same box ahead of what it leads", ARGUMENT, x, r -> r.tie(0, 0));
        due.fails("the same tie once more", STATE, x, r -> r.tie(0, 1));
        due.fails("it leads another one", STATE, x, r -> r.tie(0, 2));
        due.fails("it follows another one", STATE, x, r -> r.tie(2, 1));
        due.fails("a ring of two", STATE, x, r -> r.tie(1, 0));
        x.tie(1, 2);
        due.fails("a ring of three", STATE, x, r -> r.tie(2, 0));
        x.tie(2, 4);
        due.fails("a ring of four", STATE, x, r -> r.tie(4, 0));
        x.untie(2);
        due.is("two ends", 0, x.tie(4, 0));
        due.are("tied", "2 4 0 1", Look.reading(x, 1));
    }

    private static void tieTellsHowManyFall() {
        Run x = column();
        x.approve(0, 1);
        x.approve(3, 1);
        due.is("as it was read anyhow", 0, x.tie(0, 1));
        due.is("they stand", 9, x.approvers(1));
        due.is("another order", 2, x.tie(2, 0));
        due.is("they have fallen", 0, x.approvers(1));
    }

    private static void untieUnties() {
        Run x = column();
        x.tie(2, 0);
        x.tie(0, 1);
        due.fails("the one that leads follows none", STATE, x, r -> r.untie(2));
        due.is("untie", 0, x.untie(0));
        due.is("it follows none", -1, x.about(0, 6));
        due.is("the other one leads none", -1, x.about(2, 7));
        due.is("what it leads follows it still", 0, x.about(1, 6));
        due.are("untied", "0 1 2", Look.reading(x, 1));
        due.fails("untied already", STATE, x, r -> r.untie(0));
        x.remove(2);
        for (int box : new int[] {-1, 2, 3, 24, MIN, MAX}) {
            due.fails("untie(" + box + ")", INDEX, x, r -> r.untie(box));
        }
    }

    private static void untieTellsHowManyFall() {
        Run x = column();
        x.tie(0, 1);
        x.tie(1, 2);
        x.approve(0, 1);
        due.is("the order is the same", 0, x.untie(2));
        x.tie(2, 0);
        x.approve(1, 1);
        x.approve(2, 1);
        due.is("another order", 2, x.untie(0));
    }
}
