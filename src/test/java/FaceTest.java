import java.lang.reflect.Constructor;
import java.lang.reflect.Field;
import java.lang.reflect.Method;
import java.lang.reflect.Modifier;
import java.util.Set;
import java.util.TreeSet;

/** The public face is the document's, and nothing else is seen from outside (promise 1 and LANGUAGE 1). */
final class FaceTest {
    private static final String[] METHODS = {
        "int feed(long,long,long)", "int school()", "int pupil(int,int)", "int say(int,int,int)", "boolean unsay()",
        "int saying(int,int)", "int orders()", "int sure(int,int)", "int span(int,int)", "int dropped(int)",
        "int row(int)", "int helped()", "int unlike()", "long chance(int,int,int)", "int next(int)", "int needed()",
        "int newOne(int)", "boolean sit(int,int)", "boolean plan(int,int)", "int changes()", "int hidden(int)",
        "int wishes(int,int)", "int rests()", "int rest(int,int)", "int season(int,int)", "boolean mark(int,boolean)",
        "int count(int)",
    };

    private FaceTest() {
    }

    public static void main(String[] args) {
        Set<String> seen = new TreeSet<>();
        Set<String> hidden = new TreeSet<>();
        for (Method m : BenchOrder.class.getDeclaredMethods()) {
            (Modifier.isPrivate(m.getModifiers()) ? hidden : seen).add(told(m));
        }
        for (Class<?> inside : BenchOrder.class.getDeclaredClasses()) {
            Check.due("static " + inside, Modifier.isStatic(inside.getModifiers()), true);
            Check.due("not public " + inside, Modifier.isPublic(inside.getModifiers()), false);
            for (Method m : inside.getDeclaredMethods()) {
                hidden.add(told(m));
            }
        }
        Check.due("some twelve classes", BenchOrder.class.getDeclaredClasses().length < 13, true);
        Check.due("methods " + seen, seen.equals(Set.of(METHODS)), true);
        for (String m : hidden) {
            String name = m.substring(m.indexOf(' ') + 1, m.indexOf('('));
            for (String face : METHODS) {
                Check.due("private " + m, face.contains(" " + name + "("), false);
            }
        }
        for (Field f : BenchOrder.class.getDeclaredFields()) {
            boolean known = f.getName().equals("NONE") && Modifier.isPublic(f.getModifiers());
            Check.due("field " + f, known || Modifier.isPrivate(f.getModifiers()), true);
            Check.due("static and not final: " + f,
                    Modifier.isStatic(f.getModifiers()) && !Modifier.isFinal(f.getModifiers()), false);
        }
        Constructor<?>[] made = BenchOrder.class.getDeclaredConstructors();
        Check.due("constructors", made.length, 1);
        Check.due("public class", Modifier.isPublic(BenchOrder.class.getModifiers()), true);
        Check.due("final class", Modifier.isFinal(BenchOrder.class.getModifiers()), true);
        Check.due("NONE", BenchOrder.NONE, -1);
        nobody();
        Check.end();
    }

    private static String told(Method m) {
        StringBuilder text = new StringBuilder();
        text.append(m.getReturnType().getSimpleName()).append(' ').append(m.getName()).append('(');
        for (int i = 0; i < m.getParameterCount(); i++) {
            text.append(i == 0 ? "" : ",").append(m.getParameterTypes()[i].getSimpleName());
        }
        return text.append(')').toString();
    }

    private static void nobody() {
        BenchOrder x = new BenchOrder();
        for (int what = 0; what <= 6; what++) {
            Check.due("count of nobody", x.count(what), 0);
        }
        Check.due("orders of nobody", x.orders(), 1);
        Check.due("changes of nobody", x.changes(), 0);
        Check.due("needed of nobody", x.needed(), 0);
        Check.due("rests of nobody", x.rests(), -1);
        Check.due("unsay of nobody", x.unsay(), false);
        Check.due("empty tape", x.school(), 0);
        Check.due("next of nobody", x.next(2), -1);
        Check.due("season of nobody", x.season(0, 0), -1);
        Check.due("sit of nobody", x.sit(0, -1), false);
        Check.due("plan of nobody", x.plan(0, -1), false);
        Check.due("mark of nobody", x.mark(3, false), true);
        Check.due("back to nobody", x.mark(3, true), true);
    }
}
