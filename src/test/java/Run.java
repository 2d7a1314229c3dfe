import java.util.ArrayList;
import java.util.List;

/**
 * A run of calls on a new object. It keeps those that change the object, so that another object can be brought
 * to the same state, and it has no more calls than the document promises anything for.
 */
final class Run {

    interface Call {
        long on(Run run);
    }

    private static final int MOST_CALLS = 512;

    private final Readingorder x = new Readingorder();
    private final List<Call> changes = new ArrayList<>();
    private int calls = 0;

    /** A new object, after the same changes. */
    Run again() {
        Run other = new Run();
        for (Call change : changes) {
            Due.outcome(() -> change.on(other));
        }
        return other;
    }

    private Readingorder asked() {
        calls++;
        if (calls > MOST_CALLS) {
            throw new AssertionError("a test asks more of an object than is promised");
        }
        return x;
    }

    private Readingorder changed(Call change) {
        changes.add(change);
        return asked();
    }

    int box(int page, int left, int top, int width, int height, int kind) {
        return changed(r -> r.box(page, left, top, width, height, kind)).box(page, left, top, width, height, kind);
    }

    int move(int box, int left, int top) {
        return changed(r -> r.move(box, left, top)).move(box, left, top);
    }

    int resize(int box, int width, int height) {
        return changed(r -> r.resize(box, width, height)).resize(box, width, height);
    }

    int remove(int box) {
        return changed(r -> r.remove(box)).remove(box);
    }

    int tie(int box, int behind) {
        return changed(r -> r.tie(box, behind)).tie(box, behind);
    }

    int untie(int box) {
        return changed(r -> r.untie(box)).untie(box);
    }

    int order(int page, int place) {
        return asked().order(page, place);
    }

    int orderAnew(int page, int place) {
        return asked().orderAnew(page, place);
    }

    int placeOf(int box) {
        return asked().placeOf(box);
    }

    int boxes(int page) {
        return asked().boxes(page);
    }

    int about(int box, int what) {
        return asked().about(box, what);
    }

    int way(int page) {
        return asked().way(page);
    }

    int faults(int box) {
        return asked().faults(box);
    }

    int faulty(int page) {
        return asked().faulty(page);
    }

    int approve(int person, int page) {
        return changed(r -> r.approve(person, page)).approve(person, page);
    }

    boolean stands(int approval) {
        return asked().stands(approval);
    }

    int approvers(int page) {
        return asked().approvers(page);
    }

    int breaks(int box, int left, int top) {
        return asked().breaks(box, left, top);
    }
}
