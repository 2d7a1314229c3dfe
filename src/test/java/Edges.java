import java.util.Arrays;

/** What the tests of single sentences have in common. */
abstract class Edges {

    static final Class<IndexOutOfBoundsException> INDEX = IndexOutOfBoundsException.class;
    static final Class<IllegalArgumentException> ARGUMENT = IllegalArgumentException.class;
    static final Class<IllegalStateException> STATE = IllegalStateException.class;
    static final int NONE = Readingorder.NONE;
    static final int TEXT = Readingorder.TEXT;
    static final int ITEM = Readingorder.ITEM;
    static final int FIGURE = Readingorder.FIGURE;
    static final int NOTE = Readingorder.NOTE;
    static final int HEAD_1 = Readingorder.HEAD_1;
    static final int HEAD_2 = Readingorder.HEAD_2;
    static final int HEAD_3 = Readingorder.HEAD_3;
    static final int MAX = Integer.MAX_VALUE;
    static final int MIN = Integer.MIN_VALUE;

    interface OnNumber {
        long on(Run run, int number);
    }

    interface OnPair {
        long on(Run run, int first, int second);
    }

    /** These numbers, and those at the ends of the range, where a sum may wrap round. */
    static int[] far(int... near) {
        int[] all = Arrays.copyOf(near, near.length + 4);
        all[near.length] = MIN;
        all[near.length + 1] = MIN + 1;
        all[near.length + 2] = MAX - 1;
        all[near.length + 3] = MAX;
        return all;
    }

    /** So many boxes on a page, one below the other: 20 wide, 2 high, 1 apart. */
    static Run column(int page, int count) {
        Run x = new Run();
        for (int n = 0; n < count; n++) {
            x.box(page, 10, 3 * n, 20, 2, TEXT);
        }
        return x;
    }

    /** Page 0 has one box, page 1 two, page 4 five; each page's are one below the other. */
    static Run pages() {
        Run x = new Run();
        for (int page = 0; page < 5; page++) {
            for (int n = 0; n <= page; n++) {
                x.box(page, 10, 3 * n, 20, 2, TEXT);
            }
        }
        return x;
    }

    static int firstOf(int page) {
        return page * (page + 1) / 2;
    }

    /** The numbers from one to another with blanks between, forward or back. */
    static String numbers(int from, int to) {
        StringBuilder text = new StringBuilder().append(from);
        for (int n = from; n != to; ) {
            n += from < to ? 1 : -1;
            text.append(' ').append(n);
        }
        return text.toString();
    }

    static void refuses(Due due, String call, Class<? extends RuntimeException> want, Run x, OnNumber made,
            int... numbers) {
        for (int number : numbers) {
            due.fails(call + " of " + number, want, x, r -> made.on(r, number));
        }
    }

    static void refuses(Due due, String call, Class<? extends RuntimeException> want, Run x, OnPair made,
            int[][] pairs) {
        for (int[] pair : pairs) {
            due.fails(call + " of " + pair[0] + ", " + pair[1], want, x, r -> made.on(r, pair[0], pair[1]));
        }
    }

    static void refusesNoPage(Due due, String call, OnNumber made) {
        refuses(due, call + " on a new object", INDEX, new Run(), made, far(-1, 5));
        Run x = pages();
        x.approve(0, 0);
        x.approve(1, 4);
        refuses(due, call, INDEX, x, made, far(-1, 5, 6));
        refuses(due, call + " with 24 boxes", INDEX, column(4, 24), made, far(-1, 5));
    }

    static void refusesNoBox(Due due, String call, OnNumber made) {
        refusesNoNumber(due, call, made);
        for (int gone = 0; gone < 3; gone++) {
            Run x = column(1, 3);
            x.approve(4, 1);
            x.remove(gone);
            refuses(due, call + " when it is gone", INDEX, x, made, gone);
        }
        Run full = column(1, 24);
        full.remove(23);
        refuses(due, call + " when the last one is gone", INDEX, full, made, 23, 24);
    }

    /** Below the first number, behind the last one that a box has, and behind the last one that there can be. */
    static void refusesNoNumber(Due due, String call, OnNumber made) {
        refuses(due, call + " on a new object", INDEX, new Run(), made, far(-1, 0, 23, 24));
        Run x = column(1, 3);
        x.approve(4, 1);
        refuses(due, call, INDEX, x, made, far(-1, 3, 4, 23, 24));
        refuses(due, call + " with 24 boxes", INDEX, column(1, 24), made, far(-1, 24, 25));
    }

    /**
     * The scene has boxes on page 1, and some on page 2. Either call makes the order of page 1 another one; the
     * first one fells all its approvals, and the next one those alone that were given between.
     */
    static void tellsHowManyFall(Due due, String call, Run scene, Run.Call first, Run.Call next) {
        for (int count : new int[] {0, 1, 2, 19, 20}) {
            Run x = scene.again();
            for (int number = 0; number < count; number++) {
                x.approve(number % 6, 1);
            }
            if (count < 20) {
                x.approve(5, 2);
            }
            due.is(call + " with " + count + " approvals", count, first.on(x));
            for (int number = 0; number < count; number++) {
                due.is("stands(" + number + ") of " + count, false, x.stands(number));
            }
            if (count < 20) {
                due.is("stands for another page", true, x.stands(count));
            }
            if (count < 19) {
                x.approve(3, 1);
            }
            due.is("the next call, with " + count + " fallen", count < 19 ? 1 : 0, next.on(x));
        }
    }

    /** The call leaves the order of page 1 as it is, so that all of as many approvals as there can be stand. */
    static void tellsThatNoneFalls(Due due, String call, Run scene, Run.Call same) {
        Run x = scene.again();
        for (int number = 0; number < 20; number++) {
            x.approve(number % 6, 1);
        }
        due.is(call, 0, same.on(x));
        for (int number = 0; number < 20; number++) {
            due.is("stands(" + number + ") after " + call, true, x.stands(number));
        }
    }
}
