/** All that an object answers about itself, as one text. */
final class Look {

    private static final int MOST_BOXES = 24;

    private Look() {
    }

    static String at(Readingorder x) {
        StringBuilder text = new StringBuilder();
        int made = addBoxes(x, text);
        for (int page = 0; page < 5; page++) {
            text.append("page ").append(page).append(':').append(reading(x, page));
            text.append(" approvers ").append(x.approvers(page)).append('\n');
        }
        addApprovals(x, text);
        return text.append(made).toString();
    }

    /** The boxes of a page in their order, like "3 0 1". */
    static String reading(Readingorder x, int page) {
        StringBuilder text = new StringBuilder();
        for (int place = 0; place < x.boxes(page); place++) {
            text.append(place == 0 ? "" : " ").append(x.order(page, place));
        }
        return text.toString();
    }

    /** The same as it is told by orderAnew. */
    static String readingAnew(Readingorder x, int page) {
        StringBuilder text = new StringBuilder();
        for (int place = 0; place < x.boxes(page); place++) {
            text.append(place == 0 ? "" : " ").append(x.orderAnew(page, place));
        }
        return text.toString();
    }

    private static int addBoxes(Readingorder x, StringBuilder text) {
        for (int box = 0; box < MOST_BOXES; box++) {
            try {
                for (int what = 0; what <= 8; what++) {
                    text.append(x.about(box, what)).append(' ');
                }
            } catch (IndexOutOfBoundsException none) {
                return box;
            }
            text.append('\n');
        }
        return MOST_BOXES;
    }

    private static void addApprovals(Readingorder x, StringBuilder text) {
        for (int approval = 0; approval < 20; approval++) {
            try {
                text.append(x.stands(approval)).append(' ');
            } catch (IndexOutOfBoundsException none) {
                return;
            }
        }
    }
}
