import java.util.Random;

/** Runs of calls by chance, always the same ones, each answer beside that of the model. */
public final class ModelTest {

    private static final Due due = new Due("ModelTest");
    private static final int RUNS = 1000;
    private static final int CALLS = 512;
    private static final int[] STRANGE = {
        -1, -2, 5, 6, 7, 9, 20, 24, 60, 61, 80, 81, Integer.MAX_VALUE, Integer.MAX_VALUE - 1, Integer.MIN_VALUE};

    private final Random random;
    private final Readingorder x = new Readingorder();
    private final Model model = new Model();
    /** A run has its own grain, so that edges often touch, its own sizes, and its own pages. */
    private final int grain;
    private final int largest;
    private final int pages;
    private final boolean strict;
    private int made = 0;
    private int calls = 0;

    private ModelTest(int run) {
        random = new Random(run);
        grain = new int[] {1, 2, 5, 10}[run % 4];
        largest = new int[] {4, 12, 30, 60}[run / 4 % 4];
        pages = run % 3 == 0 ? 5 : 1 + run % 2;
        strict = run % 5 != 0;
    }

    public static void main(String[] args) {
        for (int run = 0; run < RUNS; run++) {
            ModelTest test = new ModelTest(run);
            // One turn may make two calls.
            while (test.calls < CALLS - 1) {
                test.turn(run);
            }
        }
        due.end();
    }

    private void turn(int run) {
        int which = made < 3 ? 0 : random.nextInt(100);
        int box = box();
        int page = strange(random.nextInt(pages));
        int left = strange(snapped(60));
        int top = strange(snapped(80));
        int place = strange(random.nextInt(10));
        if (which < 14) {
            int width = size();
            int height = size();
            int l = inside(left, 60, width);
            int t = inside(top, 80, height);
            int kind = strange(random.nextInt(7));
            made++;
            same(run, "box", () -> x.box(page, l, t, width, height, kind),
                    () -> model.box(page, l, t, width, height, kind));
        } else if (which < 26) {
            int l = nearby(box, 1, 3, left, 60);
            int t = nearby(box, 2, 4, top, 80);
            same(run, "breaks", () -> x.breaks(box, l, t), () -> model.breaks(box, l, t));
            if (random.nextInt(3) != 0) {
                same(run, "move", () -> x.move(box, l, t), () -> model.move(box, l, t));
            }
        } else if (which < 32) {
            int width = size();
            int height = size();
            same(run, "resize", () -> x.resize(box, width, height), () -> model.resize(box, width, height));
        } else if (which < 34) {
            same(run, "remove", () -> x.remove(box), () -> model.remove(box));
        } else if (which < 42) {
            int behind = box();
            same(run, "tie", () -> x.tie(box, behind), () -> model.tie(box, behind));
        } else if (which < 46) {
            same(run, "untie", () -> x.untie(box), () -> model.untie(box));
        } else if (which < 54) {
            same(run, "order", () -> x.order(page, place), () -> model.order(page, place));
        } else if (which < 62) {
            same(run, "orderAnew", () -> x.orderAnew(page, place), () -> model.order(page, place));
        } else if (which < 66) {
            same(run, "placeOf", () -> x.placeOf(box), () -> model.placeOf(box));
        } else if (which < 68) {
            same(run, "boxes", () -> x.boxes(page), () -> model.boxes(page));
        } else if (which < 74) {
            int what = strange(random.nextInt(9));
            same(run, "about", () -> x.about(box, what), () -> model.about(box, what));
        } else if (which < 78) {
            same(run, "way", () -> x.way(page), () -> model.way(page));
        } else if (which < 84) {
            same(run, "faults", () -> x.faults(box), () -> model.faults(box));
        } else if (which < 88) {
            same(run, "faulty", () -> x.faulty(page), () -> model.faulty(page));
        } else if (which < 92) {
            int person = strange(random.nextInt(6));
            same(run, "approve", () -> x.approve(person, page), () -> model.approve(person, page));
        } else if (which < 96) {
            int approval = strange(random.nextInt(20));
            same(run, "stands", () -> x.stands(approval) ? 1 : 0, () -> model.stands(approval));
        } else {
            same(run, "approvers", () -> x.approvers(page), () -> model.approvers(page));
        }
    }

    private void same(int run, String what, Due.Call call, Due.Call wanted) {
        calls++;
        String want = Due.outcome(wanted);
        String got = Due.outcome(call);
        due.check(got.equals(want), "run " + run + ": " + what + " gave " + got + ", the model " + want);
    }

    private int strange(int ordinary) {
        return random.nextInt(40) == 0 ? STRANGE[random.nextInt(STRANGE.length)] : ordinary;
    }

    private int box() {
        return strange(random.nextInt(Math.max(1, Math.min(made, 24))));
    }

    private int snapped(int below) {
        return random.nextInt(below / grain) * grain;
    }

    private int size() {
        return strange(Math.max(1, (1 + random.nextInt(largest)) / grain * grain));
    }

    /** Most boxes are put so that they fit; else hardly a page would ever be full. */
    private int inside(int edge, int end, int size) {
        return strict && edge >= 0 && edge <= end && size >= 1 && size <= end ? Math.min(edge, end - size) : edge;
    }

    private int nearby(int box, int edge, int size, int ordinary, int end) {
        if (random.nextInt(3) == 0 || box < 0 || box >= Math.min(made, 24)) {
            return ordinary;
        }
        try {
            int now = model.about(box, edge);
            return Math.max(0, Math.min(now + (random.nextInt(5) - 2) * grain, end - model.about(box, size)));
        } catch (IndexOutOfBoundsException none) {
            return ordinary;
        }
    }
}
