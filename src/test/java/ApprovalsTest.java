/** Promises 16 to 19: approvals, and what would break them. */
public final class ApprovalsTest {

    private static final Due due = new Due("ApprovalsTest");
    private static final Class<IndexOutOfBoundsException> INDEX = IndexOutOfBoundsException.class;
    private static final Class<IllegalArgumentException> ARGUMENT = IllegalArgumentException.class;
    private static final Class<IllegalStateException> STATE = IllegalStateException.class;
    private static final int MAX = Integer.MAX_VALUE;
    private static final int MIN = Integer.MIN_VALUE;

    public static void main(String[] args) {
        approveNumbers();
        approveRefuses();
        approveRefusesTheTwentyFirst();
        standsUntilTheOrderIsAnother();
        standsNeverAgain();
        standsRefuses();
        approversAreBits();
        breaksTellsAndChangesNothing();
        breaksLooksAtBothEdges();
        breaksRefuses();
        due.end();
    }

    /** On page 1, one above the other: 0 and 1; on page 2 the box 2. */
    private static Run pages() {
        Run x = new Run();
        x.box(1, 0, 0, 20, 20, 0);
        x.box(1, 0, 40, 20, 20, 0);
        x.box(2, 0, 0, 20, 20, 0);
        return x;
    }

    private static void approveNumbers() {
        Run x = pages();
        due.is("approve", 0, x.approve(0, 1));
        due.is("approve", 1, x.approve(5, 2));
        due.is("the same once more", 2, x.approve(0, 1));
        x.move(0, 0, 60);
        due.is("a number is not given once more", 3, x.approve(0, 1));
        due.is("stands", true, x.stands(3));
    }

    private static void approveRefuses() {
        Run x = pages();
        x.box(3, 0, 0, 1, 1, 0);
        x.remove(3);
        x.approve(1, 1);
        for (int person : new int[] {-1, 6, MIN, MAX}) {
            due.fails("person " + person, INDEX, x, r -> r.approve(person, 1));
            due.fails("person ahead of an empty page", INDEX, x, r -> r.approve(person, 0));
        }
        for (int page : new int[] {-1, 5, MIN, MAX}) {
            due.fails("page " + page, INDEX, x, r -> r.approve(0, page));
        }
        due.fails("a page without boxes", STATE, x, r -> r.approve(0, 0));
        due.fails("a page whose box is gone", STATE, x, r -> r.approve(0, 3));
        due.is("the next number", 1, x.approve(1, 1));
    }

    private static void approveRefusesTheTwentyFirst() {
        Run x = pages();
        for (int number = 0; number < 20; number++) {
            due.is("approve", number, x.approve(number % 6, 1 + number % 2));
        }
        due.fails("the 21st", STATE, x, r -> r.approve(0, 1));
        due.fails("person ahead of the number", INDEX, x, r -> r.approve(6, 1));
        due.fails("page ahead of the number", INDEX, x, r -> r.approve(0, 5));
        due.is("all of a page fall", 10, x.remove(0));
        due.fails("one that fell keeps its number", STATE, x, r -> r.approve(0, 1));
        due.is("the others stand", true, x.stands(19));
    }

    private static void standsUntilTheOrderIsAnother() {
        Run x = pages();
        x.approve(2, 1);
        x.move(0, 40, 10);
        x.resize(1, 40, 40);
        due.is("other places, the same order", true, x.stands(0));
        due.is("no fault", 0, x.faults(1));
        x.resize(0, 1, 1);
        due.is("a fault there is", 16, x.faults(1));
        due.is("a fault is no matter", true, x.stands(0));
        x.move(2, 10, 10);
        x.box(0, 0, 0, 1, 1, 0);
        due.is("another page is no matter", true, x.stands(0));
        due.is("another order", 1, x.tie(1, 0));
        due.is("fallen", false, x.stands(0));
    }

    private static void standsNeverAgain() {
        Run x = pages();
        x.approve(2, 1);
        x.move(0, 0, 60);
        x.move(0, 0, 0);
        due.are("the order as it was", "0 1", Look.reading(x, 1));
        due.is("fallen for ever", false, x.stands(0));
        x.approve(2, 1);
        due.is("a new one stands", true, x.stands(1));
        due.is("the old one does not", false, x.stands(0));
    }

    private static void standsRefuses() {
        Run x = pages();
        x.approve(2, 1);
        for (int wrong : new int[] {-1, 1, 19, 20, MIN, MAX}) {
            due.fails("stands(" + wrong + ")", INDEX, x, r -> r.stands(wrong) ? 1 : 0);
        }
    }

    private static void approversAreBits() {
        Run x = pages();
        for (int person = 0; person < 6; person += 2) {
            x.approve(person, 1);
        }
        x.approve(4, 1);
        x.approve(5, 2);
        due.is("persons 0, 2, 4", 1 | 4 | 16, x.approvers(1));
        due.is("person 5", 32, x.approvers(2));
        due.is("nobody", 0, x.approvers(0));
        x.move(0, 0, 60);
        due.is("fallen", 0, x.approvers(1));
        due.is("of another page", 32, x.approvers(2));
        x.approve(1, 1);
        due.is("person 1", 2, x.approvers(1));
        for (int wrong : new int[] {-1, 5, MIN, MAX}) {
            due.fails("approvers(" + wrong + ")", INDEX, x, r -> r.approvers(wrong));
        }
    }

    private static void breaksTellsAndChangesNothing() {
        Run x = pages();
        x.approve(2, 1);
        x.approve(3, 1);
        x.approve(3, 2);
        String before = Look.at(x);
        due.is("another order", 2, x.breaks(0, 0, 60));
        due.is("the same order", 0, x.breaks(0, 40, 20));
        due.is("where it is", 0, x.breaks(0, 0, 0));
        due.is("alone on its page", 0, x.breaks(2, 40, 60));
        due.are("it changes nothing", before, Look.at(x));
        due.are("nor what is read anew", "0 1", Look.readingAnew(x, 1));
        due.is("as it tells", 2, x.move(0, 0, 60));
        due.is("what has fallen does not fall again", 0, x.breaks(0, 0, 0));
        x.approve(0, 1);
        x.tie(1, 0);
        due.is("a box that follows may go anywhere", 0, x.breaks(0, 0, 0));
    }

    private static void breaksLooksAtBothEdges() {
        Run x = new Run();
        x.box(1, 3, 5, 10, 20, 0);
        x.box(1, 20, 10, 10, 20, 0);
        x.approve(4, 1);
        String before = Look.at(x);
        due.is("right of the other one", 1, x.breaks(0, 30, 5));
        due.is("below the other one", 1, x.breaks(0, 3, 30));
        due.is("left, but below", 0, x.breaks(1, 0, 25));
        due.is("over one another, and further up", 1, x.breaks(1, 1, 0));
        due.is("still left", 0, x.breaks(0, 7, 5));
        due.are("both edges are as they were", before, Look.at(x));
        due.is("right of the other one", 1, x.move(0, 30, 5));
    }

    private static void breaksRefuses() {
        Run x = pages();
        x.approve(2, 1);
        x.remove(2);
        for (int box : new int[] {-1, 2, 3, 24, MIN, MAX}) {
            due.fails("box " + box, INDEX, x, r -> r.breaks(box, 0, 0));
            due.fails("box ahead of place", INDEX, x, r -> r.breaks(box, -1, 0));
        }
        int[][] wrong = {{-1, 0}, {0, -1}, {41, 0}, {0, 61}, {MAX, 0}, {0, MAX}, {MIN, 0}, {0, MIN}};
        for (int[] w : wrong) {
            due.fails("breaks(0, " + w[0] + ", " + w[1] + ")", ARGUMENT, x, r -> r.breaks(0, w[0], w[1]));
        }
    }
}
