import java.lang.reflect.Constructor;
import java.lang.reflect.Field;
import java.lang.reflect.Method;
import java.lang.reflect.Modifier;
import java.util.TreeSet;

/** The document's public face, and rule 1 of LANGUAGE.md. */
public final class FaceTest {
    private static final Check check = new Check();

    public static void main(String[] args) {
        check.due("members", membersSeen().toString(), membersDue().toString());
        check.due("the class's modifiers", Modifier.toString(PageMaker.class.getModifiers()), "public final");
        check.due("NONE", PageMaker.NONE, -1);
        check.due("AWFUL", PageMaker.AWFUL, 1073741823);
        check.end();
    }

    private static TreeSet<String> membersDue() {
        TreeSet<String> due = new TreeSet<>();
        String argument = "java.lang.IllegalArgumentException";
        String room = argument + ",java.lang.UnsupportedOperationException";
        String index = "java.lang.IndexOutOfBoundsException";
        due.add("public static final int PageMaker.NONE");
        due.add("public static final int PageMaker.AWFUL");
        due.add("public PageMaker()");
        due.add("public void PageMaker.frame(int,int,int) throws " + argument);
        due.add("public int PageMaker.box(int,int,int) throws " + room);
        due.add("public int PageMaker.glue(int,int,int,int) throws " + room);
        due.add("public int PageMaker.kern(int) throws " + room);
        due.add("public int PageMaker.penalty(int) throws " + room);
        due.add("public int PageMaker.items()");
        due.add("public int PageMaker.pages()");
        due.add("public long PageMaker.page(int,int) throws " + index);
        due.add("public long PageMaker.stands(int,int) throws " + index);
        due.add("public int PageMaker.where(int) throws " + index);
        due.add("public long PageMaker.open(int) throws " + index);
        return due;
    }

    private static TreeSet<String> membersSeen() {
        TreeSet<String> seen = new TreeSet<>();
        for (Field field : PageMaker.class.getDeclaredFields()) {
            if (!Modifier.isPrivate(field.getModifiers())) {
                seen.add(field.toString());
            }
        }
        for (Constructor<?> constructor : PageMaker.class.getDeclaredConstructors()) {
            seen.add(constructor.toString());
        }
        for (Method method : PageMaker.class.getDeclaredMethods()) {
            if (!Modifier.isPrivate(method.getModifiers())) {
                seen.add(method.toString());
            }
        }
        return seen;
    }
}
