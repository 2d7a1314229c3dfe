import java.lang.reflect.Constructor;
import java.lang.reflect.Field;
import java.lang.reflect.Method;
import java.lang.reflect.Modifier;
import java.util.TreeSet;

/** The public face, and promise 1. */
public final class FaceTest {

    private static final Due due = new Due("FaceTest");
    private static final Class<IndexOutOfBoundsException> INDEX = IndexOutOfBoundsException.class;

    public static void main(String[] args) {
        constants();
        membersAreThoseOfTheDocument();
        aNewObjectHoldsNothing();
        due.end();
    }

    private static void constants() {
        due.is("NONE", -1, Readingorder.NONE);
        due.is("TEXT", 0, Readingorder.TEXT);
        due.is("ITEM", 1, Readingorder.ITEM);
        due.is("FIGURE", 2, Readingorder.FIGURE);
        due.is("NOTE", 3, Readingorder.NOTE);
        due.is("HEAD_1", 4, Readingorder.HEAD_1);
        due.is("HEAD_2", 5, Readingorder.HEAD_2);
        due.is("HEAD_3", 6, Readingorder.HEAD_3);
    }

    private static void membersAreThoseOfTheDocument() {
        int form = Readingorder.class.getModifiers();
        due.is("the class is public and final", true, Modifier.isPublic(form) && Modifier.isFinal(form));
        TreeSet<String> open = new TreeSet<>();
        TreeSet<String> hidden = new TreeSet<>();
        for (Method method : Readingorder.class.getDeclaredMethods()) {
            (Modifier.isPrivate(method.getModifiers()) ? hidden : open).add(method.getName());
        }
        due.are("the methods that are not private", "[about, approve, approvers, box, boxes, breaks, faults, faulty,"
                + " move, order, orderAnew, placeOf, remove, resize, stands, tie, untie, way]", open.toString());
        hidden.retainAll(open);
        due.are("private methods with the name of a public one", "[]", hidden.toString());
        TreeSet<String> fields = new TreeSet<>();
        for (Field field : Readingorder.class.getDeclaredFields()) {
            if (!Modifier.isPrivate(field.getModifiers())) {
                fields.add(field.getName());
            }
        }
        due.are("the fields that are not private",
                "[FIGURE, HEAD_1, HEAD_2, HEAD_3, ITEM, NONE, NOTE, TEXT]", fields.toString());
        Constructor<?>[] constructors = Readingorder.class.getDeclaredConstructors();
        due.is("constructors", 1, constructors.length);
        due.is("its parameters", 0, constructors[0].getParameterCount());
    }

    private static void aNewObjectHoldsNothing() {
        Run x = new Run();
        for (int page = 0; page < 5; page++) {
            due.is("boxes", 0, x.boxes(page));
            due.is("order", Readingorder.NONE, x.order(page, 0));
            due.is("orderAnew", Readingorder.NONE, x.orderAnew(page, 0));
            due.is("way", 0, x.way(page));
            due.is("faulty", 0, x.faulty(page));
            due.is("approvers", 0, x.approvers(page));
        }
        due.fails("about", INDEX, x, r -> r.about(0, 0));
        due.fails("stands", INDEX, x, r -> r.stands(0) ? 1 : 0);
        Run other = new Run();
        other.box(0, 0, 0, 1, 1, 0);
        other.approve(0, 0);
        due.is("one object's boxes are not another's", 0, x.boxes(0));
        due.fails("one object's approvals are not another's", INDEX, x, r -> r.stands(0) ? 1 : 0);
    }
}
