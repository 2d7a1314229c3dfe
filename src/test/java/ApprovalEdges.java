/** Promises 16 to 19, sentence by sentence. */
final class ApprovalEdges extends Edges {

    static void addTo(Sentences all) {
        all.add("Promise 16", "Approves a page.", ApprovalEdges::approveApproves);
        all.add("Promise 16", "`person`: 0 to 5", ApprovalEdges::approvePerson);
        all.add("Promise 16", "`page`: 0 to 4", ApprovalEdges::approvePage);
        all.add("Promise 16", "Returns the number of the approval.", ApprovalEdges::approveNumber);
        all.add("Promise 16", "Throws `IndexOutOfBoundsException` if there is no such person or page",
                ApprovalEdges::approveNobody);
        all.add("Promise 16", "Throws `IllegalStateException` if the page has no box, or there were 20",
                ApprovalEdges::approveFull);

        all.add("Promise 17", "Tells whether an approval stands.", ApprovalEdges::standsTells);
        all.add("Promise 17", "`approval`: its number", ApprovalEdges::standsNumber);
        all.add("Promise 17", "Returns whether.", ApprovalEdges::standsWhether);
        all.add("Promise 17", "Throws `IndexOutOfBoundsException` if there is no such approval",
                ApprovalEdges::standsNoApproval);

        all.add("Promise 18", "Tells who has approved a page as it is.", ApprovalEdges::approversAsItIs);
        all.add("Promise 18", "`page`: 0 to 4", ApprovalEdges::approversPage);
        all.add("Promise 18", "Returns a bit for each person of whom an approval that stands is of it.",
                ApprovalEdges::approversBits);
        all.add("Promise 18", "Throws `IndexOutOfBoundsException` if there is no such page",
                due -> refusesNoPage(due, "approvers", Run::approvers));

        all.add("Promise 19", "Tells how many approvals would fall, if a box were moved.", ApprovalEdges::breaksTells);
        all.add("Promise 19", "`box`: its number", ApprovalEdges::breaksNumber);
        all.add("Promise 19", "`left`: from 0", ApprovalEdges::breaksLeft);
        all.add("Promise 19", "`top`: from 0", ApprovalEdges::breaksTop);
        all.add("Promise 19", "Returns how many.", ApprovalEdges::breaksMany);
        all.add("Promise 19", "Throws `IndexOutOfBoundsException` if there is no such box, or it is gone",
                due -> refusesNoBox(due, "breaks", (r, box) -> r.breaks(box, 0, 0)));
        all.add("Promise 19", "Throws `IllegalArgumentException` if it would not be within the page",
                ApprovalEdges::breaksOutside);
    }

    private static int standing(Run x, int approval) {
        return x.stands(approval) ? 1 : 0;
    }

    // Promise 16

    private static void approveApproves(Due due) {
        Run x = pages();
        x.approve(3, 2);
        due.is("it stands", true, x.stands(0));
        due.is("approvers(2)", 8, x.approvers(2));
        due.is("approvers(1)", 0, x.approvers(1));
        x.approve(4, 2);
        due.is("another person", 8 | 16, x.approvers(2));
        due.is("the first one still stands", true, x.stands(0));
        due.are("the page is read as before", "3 4 5", Look.reading(x, 2));
    }

    private static void approvePerson(Due due) {
        for (int person = 0; person <= 5; person++) {
            Run x = column(1, 2);
            due.is("approve(" + person + ", 1)", 0, x.approve(person, 1));
            due.is("approvers after that", 1 << person, x.approvers(1));
        }
        refuses(due, "approve by the person", INDEX, column(1, 2), (r, person) -> r.approve(person, 1), -1, 6);
    }

    private static void approvePage(Due due) {
        for (int page = 0; page <= 4; page++) {
            Run x = pages();
            due.is("approve(2, " + page + ")", 0, x.approve(2, page));
            for (int other = 0; other <= 4; other++) {
                due.is("approvers(" + other + ")", other == page ? 4 : 0, x.approvers(other));
            }
        }
        refuses(due, "approve the page", INDEX, pages(), (r, page) -> r.approve(2, page), -1, 5);
    }

    private static void approveNumber(Due due) {
        Run x = pages();
        for (int number = 0; number < 20; number++) {
            due.is("approve, any person and page", number, x.approve(number % 6, number * 3 % 5));
        }
        Run y = column(1, 2);
        due.is("the first", 0, y.approve(0, 1));
        due.is("the same person and page", 1, y.approve(0, 1));
        y.move(0, 10, 60);
        due.is("after all have fallen", 2, y.approve(0, 1));
    }

    private static void approveNobody(Due due) {
        refusesNoPage(due, "approve the page", (r, page) -> r.approve(0, page));
        Run x = pages();
        x.approve(1, 1);
        refuses(due, "approve by the person", INDEX, x, (r, person) -> r.approve(person, 1), far(-1, 6, 7, 32, 33));
        refuses(due, "approve by the person, on a new object", INDEX, new Run(), (r, person) -> r.approve(person, 1),
                far(-1, 6));
        refuses(due, "approve", INDEX, x, Run::approve, new int[][] {{-1, -1}, {6, 5}, {MIN, MAX}, {0, -1}, {5, 5}});
    }

    private static void approveFull(Due due) {
        refuses(due, "approve a page of a new object", STATE, new Run(), (r, page) -> r.approve(0, page), 0, 4);
        Run x = column(1, 1);
        refuses(due, "approve a page without a box", STATE, x, (r, page) -> r.approve(0, page), 0, 2);
        due.is("approve a page with one box", 0, x.again().approve(0, 1));
        x.remove(0);
        refuses(due, "approve a page whose box is gone", STATE, x, (r, page) -> r.approve(0, page), 1);
        Run y = pages();
        for (int number = 0; number < 19; number++) {
            y.approve(0, number % 5);
        }
        due.is("the 20th", 19, y.approve(5, 4));
        for (int page = 0; page < 5; page++) {
            int at = page;
            refuses(due, "the 21st, of the page " + page, STATE, y, (r, person) -> r.approve(person, at), 0, 5);
        }
        for (int page = 0; page < 5; page++) {
            y.box(page, 0, 79, 1, 1, TEXT);
        }
        due.is("they have fallen", 0, y.approvers(4));
        refuses(due, "the 21st, when all have fallen", STATE, y, (r, page) -> r.approve(0, page), 0, 4);
    }

    // Promise 17

    private static void standsTells(Due due) {
        Run x = pages();
        x.approve(0, 1);
        x.approve(0, 2);
        x.approve(1, 1);
        x.move(1, 10, 60);
        x.approve(0, 1);
        boolean[] want = {false, true, false, true};
        for (int approval = 0; approval < want.length; approval++) {
            due.is("stands(" + approval + ")", want[approval], x.stands(approval));
        }
    }

    private static void standsNumber(Due due) {
        Run x = column(1, 2);
        for (int number = 0; number < 20; number++) {
            x.approve(0, 1);
            due.is("stands(" + number + ")", true, x.stands(number));
            if (number < 19) {
                int next = number + 1;
                due.fails("stands(" + next + ") ahead of that approval", INDEX, x, r -> standing(r, next));
            }
        }
        refuses(due, "stands", INDEX, x, ApprovalEdges::standing, -1, 20);
        x.move(0, 10, 60);
        due.is("stands(0), fallen", false, x.stands(0));
        due.is("stands(19), fallen", false, x.stands(19));
    }

    private static void standsWhether(Due due) {
        Run x = column(1, 2);
        x.approve(5, 1);
        due.is("it stands", true, x.stands(0));
        due.is("it stands when it is asked again", true, x.stands(0));
        x.tie(1, 0);
        due.is("it has fallen", false, x.stands(0));
        x.untie(0);
        due.is("it has fallen when the order is as it was", false, x.stands(0));
    }

    private static void standsNoApproval(Due due) {
        refuses(due, "stands on a new object", INDEX, new Run(), ApprovalEdges::standing, far(-1, 0, 19, 20));
        Run x = column(1, 2);
        refuses(due, "stands without an approval", INDEX, x, ApprovalEdges::standing, far(-1, 0));
        x.approve(0, 1);
        x.approve(1, 1);
        refuses(due, "stands with two approvals", INDEX, x, ApprovalEdges::standing, far(-1, 2, 3, 19, 20));
        x.move(0, 10, 60);
        refuses(due, "stands with two that have fallen", INDEX, x, ApprovalEdges::standing, far(-1, 2));
        for (int number = 2; number < 20; number++) {
            x.approve(1, 1);
        }
        refuses(due, "stands with 20 approvals", INDEX, x, ApprovalEdges::standing, far(-1, 20, 21));
    }

    // Promise 18

    private static void approversAsItIs(Due due) {
        Run x = column(1, 2);
        x.approve(2, 1);
        due.is("approvers", 4, x.approvers(1));
        x.move(0, 40, 0);
        due.is("read as before", 4, x.approvers(1));
        x.move(0, 40, 60);
        due.is("read otherwise", 0, x.approvers(1));
        x.approve(3, 1);
        due.is("approved as it is now", 8, x.approvers(1));
        x.move(0, 40, 0);
        due.is("as it was first", 0, x.approvers(1));
        x.remove(0);
        x.remove(1);
        due.is("all gone", 0, x.approvers(1));
    }

    private static void approversPage(Due due) {
        Run x = pages();
        for (int page = 0; page <= 4; page++) {
            x.approve(page, page);
        }
        for (int page = 0; page <= 4; page++) {
            due.is("approvers(" + page + ")", 1 << page, x.approvers(page));
        }
        refuses(due, "approvers", INDEX, x, Run::approvers, -1, 5);
    }

    private static void approversBits(Due due) {
        Run x = column(1, 2);
        x.box(2, 0, 0, 1, 1, TEXT);
        due.is("nobody", 0, x.approvers(1));
        int bits = 0;
        for (int person = 5; person >= 0; person--) {
            x.approve(person, 1);
            bits |= 1 << person;
            due.is("approvers", bits, x.approvers(1));
        }
        due.is("all six", 63, x.approvers(1));
        x.approve(5, 1);
        x.approve(0, 1);
        due.is("twice by one person", 63, x.approvers(1));
        x.approve(4, 2);
        due.is("another page", 16, x.approvers(2));
        x.move(0, 10, 60);
        x.approve(0, 1);
        due.is("one that stands beside two of his that fell", 1, x.approvers(1));
        due.is("another page still", 16, x.approvers(2));
    }

    // Promise 19

    private static void breaksTells(Due due) {
        Run x = column(1, 3);
        x.approve(0, 1);
        x.approve(0, 1);
        String before = Look.at(x.again());
        due.is("where it is", 0, x.breaks(0, 10, 0));
        due.is("read behind the others", 2, x.breaks(0, 10, 60));
        due.is("beside, and read as before", 0, x.breaks(0, 31, 1));
        due.is("no cut any more, and read last", 2, x.breaks(0, 29, 7));
        due.are("nothing is changed by that", before, Look.at(x));
        due.is("move does what was told", 2, x.move(0, 10, 60));
    }

    private static void breaksNumber(Due due) {
        Run x = column(1, 24);
        x.approve(1, 1);
        due.is("the first box down to the end", 1, x.breaks(0, 10, 78));
        due.is("the last box down to the end", 0, x.breaks(23, 10, 78));
        due.is("the last box up to the first", 1, x.breaks(23, 0, 0));
        due.is("the first box to the left", 0, x.breaks(0, 0, 0));
        refuses(due, "breaks", INDEX, x, (r, box) -> r.breaks(box, 0, 0), -1, 24);
        refuses(due, "breaks with three boxes", INDEX, column(1, 3), (r, box) -> r.breaks(box, 0, 0), 3);
    }

    private static Run approvedColumn() {
        Run x = column(1, 3);
        x.approve(0, 1);
        return x;
    }

    private static void breaksLeft(Due due) {
        Run x = approvedColumn();
        due.is("breaks(1, 0, 50)", 1, x.breaks(1, 0, 50));
        due.is("breaks(1, 1, 50)", 1, x.breaks(1, 1, 50));
        due.is("breaks(1, 0, 3)", 0, x.breaks(1, 0, 3));
        Run beside = new Run();
        beside.box(1, 20, 0, 20, 20, TEXT);
        beside.box(1, 45, 5, 15, 20, TEXT);
        beside.approve(0, 1);
        due.is("to the left edge of the page", 1, beside.breaks(1, 0, 5));
        due.is("just left of the other one", 1, beside.breaks(1, 5, 5));
        due.is("1 in common with the other one", 0, beside.breaks(1, 6, 5));
        refuses(due, "breaks(1, ..)", ARGUMENT, x, (r, left) -> r.breaks(1, left, 50), -1, -20, -21, MIN, MIN + 1);
    }

    private static void breaksTop(Due due) {
        Run x = approvedColumn();
        due.is("breaks(2, 30, 0)", 1, x.breaks(2, 30, 0));
        due.is("breaks(0, 30, 0)", 0, x.breaks(0, 30, 0));
        due.is("breaks(0, 30, 1)", 0, x.breaks(0, 30, 1));
        due.is("beside the second one, its top edge 1 further down", 1, x.breaks(0, 31, 4));
        due.is("just above the second one", 0, x.breaks(0, 31, 1));
        refuses(due, "breaks(1, 30, ..)", ARGUMENT, x, (r, top) -> r.breaks(1, 30, top), -1, -2, -3, MIN, MIN + 1);
    }

    private static void breaksMany(Due due) {
        for (int count : new int[] {0, 1, 2, 19, 20}) {
            Run x = column(1, 3);
            x.box(2, 0, 0, 1, 1, TEXT);
            for (int number = 0; number < count; number++) {
                x.approve(number % 6, 1);
            }
            if (count < 20) {
                x.approve(0, 2);
            }
            due.is("another order, with " + count + " approvals", count, x.breaks(0, 10, 60));
            due.is("the same order, with " + count + " approvals", 0, x.breaks(0, 40, 1));
            due.is("alone on its page", 0, x.breaks(3, 59, 79));
            due.is("still the same", count, x.breaks(0, 10, 60));
            x.tie(2, 0);
            due.is("when " + count + " have fallen", 0, x.breaks(1, 10, 60));
            if (count < 19) {
                x.approve(4, 1);
                due.is("with one that stands beside " + count + " that fell", 1, x.breaks(1, 10, 60));
            }
        }
    }

    private static void breaksOutside(Due due) {
        Run x = approvedColumn();
        due.is("breaks(1, 40, 78)", 1, x.breaks(1, 40, 78));
        due.is("breaks(1, 40, 3)", 0, x.breaks(1, 40, 3));
        refuses(due, "breaks(1, ..)", ARGUMENT, x, (r, left) -> r.breaks(1, left, 3), 41, 60, MAX, MAX - 1, MAX - 19, MAX - 20);
        refuses(due, "breaks(1, 0, ..)", ARGUMENT, x, (r, top) -> r.breaks(1, 0, top), 79, 80, MAX, MAX - 1, MAX - 2);
        x.resize(1, 1, 1);
        due.is("breaks(1, 59, 79)", 1, x.breaks(1, 59, 79));
        refuses(due, "breaks(1, .., 79), 1 wide", ARGUMENT, x, (r, left) -> r.breaks(1, left, 79), 60, MAX);
        refuses(due, "breaks(1, 59, ..), 1 high", ARGUMENT, x, (r, top) -> r.breaks(1, 59, top), 80, MAX);
    }
}
