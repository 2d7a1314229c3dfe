import java.lang.reflect.Constructor;
import java.lang.reflect.Field;
import java.lang.reflect.Method;
import java.lang.reflect.Modifier;
import java.util.ArrayList;
import java.util.List;
import java.util.Set;
import java.util.TreeSet;

/** What the document tells under "What it is", and each line of "The public face". */
final class FaceEdges extends Edges {

    private static final Class<?> FACE = Readingorder.class;
    private static final Set<String> CONSTANTS =
            Set.of("NONE", "TEXT", "ITEM", "FIGURE", "NOTE", "HEAD_1", "HEAD_2", "HEAD_3");
    private static final Set<String> CALLS = Set.of("box", "move", "resize", "remove", "tie", "untie", "order", "orderAnew",
            "placeOf", "boxes", "about", "way", "faults", "faulty", "approve", "stands", "approvers", "breaks");

    static void addTo(Sentences all) {
        all.add("What it is", "Pages whose boxes are read aloud in an order: found by cuts between the boxes, and by ties that"
                + " are told by hand, checked for heads that skip, items that stand alone, notes without their figures, boxes"
                + " that overlap and gaps, approved by people page by page, and a box that is moved is read at another place,"
                + " by which approvals fall.", FaceEdges::whatItIs);
        all.add("What it is", "An object is used for at most 512 calls after it has been made; what later calls answer is free.",
                FaceEdges::theLastCall);
        all.add("The public face", "public final class Readingorder {", FaceEdges::theClass);
        all.add("The public face", "public Readingorder();", FaceEdges::theConstructor);
        addConstants(all, "public static final int NONE = -1;");
        addConstants(all,
                "public static final int TEXT = 0, ITEM = 1, FIGURE = 2, NOTE = 3, HEAD_1 = 4, HEAD_2 = 5, HEAD_3 = 6;");
        String index = "throws IndexOutOfBoundsException";
        String argument = index + ", IllegalArgumentException";
        addCall(all, "int box(int page, int left, int top, int width, int height, int kind) " + argument
                + ", IllegalStateException");
        addCall(all, "int move(int box, int left, int top) " + argument);
        addCall(all, "int resize(int box, int width, int height) " + argument);
        addCall(all, "int remove(int box) " + index);
        addCall(all, "int tie(int box, int behind) " + argument + ", IllegalStateException");
        addCall(all, "int untie(int box) " + index + ", IllegalStateException");
        addCall(all, "int order(int page, int place) " + index);
        addCall(all, "int orderAnew(int page, int place) " + index);
        addCall(all, "int placeOf(int box) " + index);
        addCall(all, "int boxes(int page) " + index);
        addCall(all, "int about(int box, int what) " + argument);
        addCall(all, "int way(int page) " + index);
        addCall(all, "int faults(int box) " + index);
        addCall(all, "int faulty(int page) " + index);
        addCall(all, "int approve(int person, int page) " + index + ", IllegalStateException");
        addCall(all, "boolean stands(int approval) " + index);
        addCall(all, "int approvers(int page) " + index);
        addCall(all, "int breaks(int box, int left, int top) " + argument);
    }

    private static void addConstants(Sentences all, String line) {
        all.add("The public face", line, due -> constantsAre(due, line));
    }

    private static void addCall(Sentences all, String call) {
        String line = "public " + call + ";";
        all.add("The public face", line, due -> callIs(due, line));
    }

    // What it is

    /** A page from its first box to the fall of its approvals, and another one that all this is no matter to. */
    private static void whatItIs(Due due) {
        Run x = new Run();
        x.box(4, 0, 0, 60, 10, HEAD_1);
        x.box(4, 30, 12, 30, 20, TEXT);
        x.box(4, 0, 14, 30, 14, FIGURE);
        x.box(4, 30, 33, 30, 7, NOTE);
        x.box(4, 0, 30, 30, 10, ITEM);
        x.box(4, 0, 62, 60, 8, HEAD_3);
        x.box(2, 0, 0, 60, 80, TEXT);
        due.are("found by cuts", "0 2 4 1 3 5", Look.reading(x, 4));
        due.is("the item stands alone", 2, x.faults(4));
        due.is("the note is without its figure", 4, x.faults(3));
        due.is("the head skips, and there is a gap", 1 | 16, x.faults(5));
        x.tie(2, 3);
        due.are("and by ties", "0 2 3 4 1 5", Look.reading(x, 4));
        due.is("the note is behind its figure", 0, x.faults(3));
        x.resize(1, 30, 23);
        due.is("the boxes overlap", 8, x.faults(1));
        x.approve(0, 4);
        x.approve(5, 4);
        x.approve(5, 2);
        due.is("approved by people", 1 | 32, x.approvers(4));
        due.is("page by page", 32, x.approvers(2));
        due.is("a box that is moved, read at the same place", 0, x.move(1, 30, 11));
        due.is("a box that is moved, by which approvals fall", 2, x.move(4, 0, 70));
        due.is("is read at another place", 5, x.placeOf(4));
        due.is("nobody has approved the page as it is", 0, x.approvers(4));
        due.is("the other page is approved", 32, x.approvers(2));
    }

    /** On page 2 three boxes, one below the other, the second one tied behind the first one, and one approval. */
    private static Run approvedThree() {
        Run x = column(2, 3);
        x.tie(0, 1);
        x.approve(1, 2);
        return x;
    }

    private static final int CALLS_OF_THREE = 5;
    private static final int MOST_CALLS = 512;

    /** Calls that leave those three as they are, each with 0 as its answer. */
    private static final Run.Call[] IDLE = {r -> r.move(0, 10, 0), r -> r.resize(2, 20, 2), r -> r.order(2, 2) - 2,
        r -> r.orderAnew(2, 0), r -> r.placeOf(1) - 1, r -> r.boxes(2) - 3, r -> r.about(1, 6), r -> r.way(2) - 6,
        r -> r.faults(2), r -> r.faulty(2), r -> r.stands(0) ? 0 : 1, r -> r.approvers(2) - 2,
        r -> r.breaks(0, 10, 60) - 1};

    /** Those three, with all calls but one made. */
    private static Run almostUsed(Due due) {
        Run x = approvedThree();
        for (int call = CALLS_OF_THREE + 1; call < MOST_CALLS; call++) {
            due.is("the call " + call, 0, IDLE[call % IDLE.length].on(x));
        }
        return x;
    }

    private static void lastIs(Due due, String call, long want, Run.Call last) {
        Run x = almostUsed(due);
        due.are(call + " as the 512th call", String.valueOf(want), Due.outcome(() -> last.on(x)));
    }

    private static void theLastCall(Due due) {
        lastIs(due, "box", 3, r -> r.box(0, 0, 0, 1, 1, TEXT));
        lastIs(due, "move", 1, r -> r.move(0, 10, 60));
        lastIs(due, "resize", 0, r -> r.resize(0, 20, 3));
        lastIs(due, "remove", 1, r -> r.remove(0));
        lastIs(due, "tie", 1, r -> r.tie(2, 0));
        lastIs(due, "untie", 0, r -> r.untie(1));
        lastIs(due, "order", 2, r -> r.order(2, 2));
        lastIs(due, "orderAnew", 1, r -> r.orderAnew(2, 1));
        lastIs(due, "placeOf", 2, r -> r.placeOf(2));
        lastIs(due, "boxes", 3, r -> r.boxes(2));
        lastIs(due, "about", 1, r -> r.about(0, 7));
        lastIs(due, "way", 6, r -> r.way(2));
        lastIs(due, "faults", 0, r -> r.faults(2));
        lastIs(due, "faulty", 0, r -> r.faulty(2));
        lastIs(due, "approve", 1, r -> r.approve(5, 2));
        lastIs(due, "stands", 1, r -> r.stands(0) ? 1 : 0);
        lastIs(due, "approvers", 2, r -> r.approvers(2));
        lastIs(due, "breaks", 1, r -> r.breaks(0, 10, 60));
        Run x = almostUsed(due);
        due.are("a refused call as the 512th", INDEX.getName(), Due.outcome(() -> x.move(3, 0, 0)));
        for (int n = 0; n < IDLE.length; n++) {
            Run y = approvedThree();
            for (int call = CALLS_OF_THREE + 1; call <= MOST_CALLS; call++) {
                due.is("the idle call " + n + " as the call " + call, 0, IDLE[n].on(y));
            }
        }
    }

    // The public face

    /** What there is beside the face is private, but for classes inside it, which are static. */
    private static void theClass(Due due) {
        due.is("it is public", true, Modifier.isPublic(FACE.getModifiers()));
        due.is("it is final", true, Modifier.isFinal(FACE.getModifiers()));
        due.is("it has no package", true, FACE.getPackageName().isEmpty());
        due.is("it is a class", false, FACE.isInterface() || FACE.isEnum() || FACE.isRecord());
        due.is("it is below no other class", true, FACE.getSuperclass() == Object.class);
        due.is("it implements nothing", 0, FACE.getInterfaces().length);
        TreeSet<String> open = new TreeSet<>();
        TreeSet<String> hidden = new TreeSet<>();
        for (Method method : FACE.getDeclaredMethods()) {
            (Modifier.isPrivate(method.getModifiers()) ? hidden : open).add(method.getName());
        }
        due.are("the methods that are not private", new TreeSet<>(CALLS).toString(), open.toString());
        hidden.retainAll(open);
        due.are("private methods with the name of a public one", "[]", hidden.toString());
        TreeSet<String> fields = new TreeSet<>();
        for (Field field : FACE.getDeclaredFields()) {
            if (!Modifier.isPrivate(field.getModifiers())) {
                fields.add(field.getName());
            }
        }
        due.are("the fields that are not private", new TreeSet<>(CONSTANTS).toString(), fields.toString());
        for (Class<?> inside : FACE.getDeclaredClasses()) {
            int form = inside.getModifiers();
            due.is(inside.getName() + " is open", false, Modifier.isPublic(form) || Modifier.isProtected(form));
            due.is(inside.getName() + " is static", true, Modifier.isStatic(form));
        }
    }

    private static void theConstructor(Due due) {
        Constructor<?>[] all = FACE.getDeclaredConstructors();
        due.is("constructors", 1, all.length);
        due.is("it is public", true, Modifier.isPublic(all[0].getModifiers()));
        due.is("its parameters", 0, all[0].getParameterCount());
        due.is("what it throws", 0, all[0].getExceptionTypes().length);
    }

    private static void constantsAre(Due due, String line) {
        String told = line.substring("public static final int ".length(), line.length() - 1);
        for (String constant : told.split(", ")) {
            String[] parts = constant.split(" = ");
            Field field = fieldOf(parts[0]);
            due.check(field != null, "there is no constant " + parts[0]);
            if (field != null) {
                due.are("how " + parts[0] + " is declared", "public static final int",
                        Modifier.toString(field.getModifiers()) + " " + field.getType());
                due.are(parts[0], parts[1], valueOf(field));
            }
        }
    }

    private static Field fieldOf(String name) {
        for (Field field : FACE.getDeclaredFields()) {
            if (field.getName().equals(name)) {
                return field;
            }
        }
        return null;
    }

    private static String valueOf(Field field) {
        try {
            return String.valueOf(field.get(null));
        } catch (IllegalAccessException | NullPointerException e) {
            return e.toString();
        }
    }

    private static void callIs(Due due, String line) {
        String name = line.substring(0, line.indexOf('(')).replaceFirst(".* ", "");
        List<String> found = new ArrayList<>();
        for (Method method : FACE.getDeclaredMethods()) {
            if (method.getName().equals(name)) {
                found.add(written(method));
            }
        }
        due.are(name + " is declared", "[" + line.replaceAll("int \\w+([,)])", "int$1") + "]", found.toString());
    }

    /** A method as the document writes it, but for the names of the parameters. */
    private static String written(Method method) {
        StringBuilder text = new StringBuilder(Modifier.toString(method.getModifiers()));
        text.append(' ').append(method.getReturnType()).append(' ').append(method.getName());
        text.append('(').append(listed(method.getParameterTypes())).append(')');
        String thrown = listed(method.getExceptionTypes());
        return text.append(thrown.isEmpty() ? "" : " throws " + thrown).append(';').toString();
    }

    private static String listed(Class<?>[] types) {
        List<String> names = new ArrayList<>();
        for (Class<?> type : types) {
            names.add(type.getSimpleName());
        }
        return String.join(", ", names);
    }
}
