/** What an object shows, as one text. */
final class Look {

    private static final int PAGES = 5;
    private static final int MOST_BOXES = 24;
    private static final int MOST_APPROVALS = 20;

    private Look() {
    }

    /** All that an object answers about itself. */
    static String at(Run x) {
        StringBuilder text = new StringBuilder();
        int made = addBoxes(x, text);
        for (int page = 0; page < PAGES; page++) {
            text.append("page ").append(page).append(": ").append(reading(x, page));
            text.append(" anew ").append(readingAnew(x, page));
            text.append(" way ").append(x.way(page)).append(" faulty ").append(x.faulty(page));
            text.append(" approvers ").append(x.approvers(page)).append('\n');
        }
        addApprovals(x, text);
        return text.append(made).toString();
    }

    /** What the calls that change an object answer from here on, and what it shows then. */
    static String after(Run x) {
        StringBuilder text = new StringBuilder();
        for (int page = 0; page < PAGES; page++) {
            int at = page;
            add(text, "approve", () -> x.approve(at, at));
        }
        for (int box = 0; box < MOST_BOXES; box++) {
            int n = box;
            add(text, "breaks", () -> x.breaks(n, 0, 0));
            add(text, "untie", () -> x.untie(n));
        }
        for (int box = 0; box < MOST_BOXES; box++) {
            int n = box;
            add(text, "tie", () -> x.tie(n + 1, n));
            add(text, "move", () -> x.move(n, n, 40 - n));
            add(text, "resize", () -> x.resize(n, 5, 3));
        }
        add(text, "box", () -> x.box(0, 0, 0, 1, 1, Readingorder.TEXT));
        add(text, "approve", () -> x.approve(5, 0));
        for (int page = 0; page < PAGES; page++) {
            text.append(reading(x, page)).append('\n');
        }
        for (int box = 0; box < MOST_BOXES; box++) {
            int n = box;
            add(text, "remove", () -> x.remove(n));
        }
        addApprovals(x, text);
        return text.toString();
    }

    private static void add(StringBuilder text, String what, Due.Call call) {
        text.append(what).append(' ').append(Due.outcome(call)).append('\n');
    }

    /** The boxes of a page in their order, like "3 0 1". */
    static String reading(Run x, int page) {
        StringBuilder text = new StringBuilder();
        int count = x.boxes(page);
        for (int place = 0; place < count; place++) {
            text.append(place == 0 ? "" : " ").append(x.order(page, place));
        }
        return text.toString();
    }

    /** The same as it is told by orderAnew. */
    static String readingAnew(Run x, int page) {
        StringBuilder text = new StringBuilder();
        int count = x.boxes(page);
        for (int place = 0; place < count; place++) {
            text.append(place == 0 ? "" : " ").append(x.orderAnew(page, place));
        }
        return text.toString();
    }

    private static int addBoxes(Run x, StringBuilder text) {
        for (int box = 0; box < MOST_BOXES; box++) {
            try {
                for (int what = 0; what <= 8; what++) {
                    text.append(x.about(box, what)).append(' ');
                }
            } catch (IndexOutOfBoundsException none) {
                return box;
            }
            int n = box;
            add(text, "faults", () -> x.faults(n));
        }
        return MOST_BOXES;
    }

    private static void addApprovals(Run x, StringBuilder text) {
        for (int approval = 0; approval < MOST_APPROVALS; approval++) {
            try {
                text.append(x.stands(approval)).append(' ');
            } catch (IndexOutOfBoundsException none) {
                return;
            }
        }
    }
}
