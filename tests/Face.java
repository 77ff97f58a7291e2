import java.lang.reflect.Constructor;
import java.lang.reflect.Field;
import java.lang.reflect.Method;
import java.lang.reflect.Modifier;
import java.util.Arrays;
import java.util.Set;
import java.util.TreeSet;

/** The public face is the document's, and nothing else can be seen from outside (rule 1 of LANGUAGE.md). */
public final class Face {
    private static final String FACE = "sign:1 end:1b town:0 weather:0 rule:0 winter:2 falls:1 of:2n set:3 sheet:4 above:1 "
        + "debt:2 day:0 days:1 sweep:2 clear:2 wind:2 loose:2 work:3 night:0 undo:0 ring:0 cancel:0 rings:0 net:1n least:0 "
        + "even:0 debtor:0 june:0 hay:1 works:2 summer:0 ahead:1 slides:1 later:2 deepest:2 lord:1 worst:1 melt:0 lazy:1 "
        + "dig:3 bare:2n best:2 own:3 better:2 rests:2 rough:2 turned:1 needs:2 premium:1n track:2 thaw:0 suspects:1 gang:1 "
        + "keep:1b again:1b count:1 row:1n";

    public static void main(String[] args) throws Exception {
        Checks t = new Checks();
        Set<String> due = new TreeSet<>(Arrays.asList(FACE.split(" ")));
        Set<String> names = new TreeSet<>();
        Set<String> got = new TreeSet<>();
        for (Method m : SnowForSummer.class.getDeclaredMethods()) {
            if (!Modifier.isPrivate(m.getModifiers())) {
                got.add(told(m));
                names.add(m.getName());
                t.due(m + " is public and no more", m.getModifiers(), Modifier.PUBLIC);
                t.due(m + " takes ints", Arrays.stream(m.getParameterTypes()).allMatch(c -> c == int.class), true);
            }
        }
        t.due("methods " + got, got.equals(due), true);
        privateNames(t, SnowForSummer.class, names);
        fields(t);
        Constructor<?>[] constructors = SnowForSummer.class.getDeclaredConstructors();
        t.due("one constructor", constructors.length, 1);
        t.due("it is public", constructors[0].getModifiers(), Modifier.PUBLIC);
        t.due("it takes nothing", constructors[0].getParameterCount(), 0);
        t.due("the class is public and final", SnowForSummer.class.getModifiers(), Modifier.PUBLIC | Modifier.FINAL);
        t.finish();
    }

    private static String told(Method m) {
        String answer = m.getReturnType() == int.class ? "" : m.getReturnType() == boolean.class ? "b" : "?";
        String thrown = m.getExceptionTypes().length == 1
            && m.getExceptionTypes()[0] == java.util.NoSuchElementException.class ? "n" : "";
        return m.getName() + ":" + m.getParameterCount() + answer + thrown;
    }

    private static void privateNames(Checks t, Class<?> c, Set<String> names) {
        for (Method m : c.getDeclaredMethods()) {
            if (c != SnowForSummer.class || Modifier.isPrivate(m.getModifiers())) {
                t.due(m + " bears the name of a public one", names.contains(m.getName()), false);
            }
        }
        for (Class<?> inside : c.getDeclaredClasses()) {
            t.due(inside + " is static", Modifier.isStatic(inside.getModifiers()), true);
            privateNames(t, inside, names);
        }
    }

    private static void fields(Checks t) throws Exception {
        int seen = 0;
        for (Field f : SnowForSummer.class.getDeclaredFields()) {
            seen += Modifier.isPrivate(f.getModifiers()) ? 0 : 1;
            if (Modifier.isStatic(f.getModifiers())) {
                t.due(f + " is final", Modifier.isFinal(f.getModifiers()), true);
            }
        }
        Field none = SnowForSummer.class.getField("NONE");
        t.due("one field can be seen", seen, 1);
        t.due("NONE", none.getInt(null), -1);
        t.due("NONE's kind", none.getModifiers(), Modifier.PUBLIC | Modifier.STATIC | Modifier.FINAL);
    }
}
