import java.lang.reflect.Constructor;
import java.lang.reflect.Field;
import java.lang.reflect.Method;
import java.lang.reflect.Modifier;
import java.util.Set;
import java.util.TreeSet;

/** The public face of the document, and rule 1 of LANGUAGE.md: nothing else can be seen from outside. */
public final class FaceTest {
    private static final String[] FACE = {
        "int thread(int,int,int)", "int cut(int,int)", "int tie(int,int,int)", "int ends(int,int)", "int spool(int)",
        "int act(int,int,int,int,int)", "int swap(int,int,int,int)", "int cloth(int,int)", "int snip(int)",
        "int hang(int,int)", "int cell(int,int)", "int weave(int,int,int)", "int card(int,int,int,int,int)",
        "int unhook()", "boolean keeper(int)", "int run(int)", "int told(int)"};

    public static void main(String[] args) {
        Check c = new Check();
        Set<String> due = new TreeSet<>(Set.of(FACE));
        Set<String> names = new TreeSet<>();
        Set<String> seen = new TreeSet<>();
        for (Method m : HandLoom.class.getDeclaredMethods()) {
            if (!Modifier.isPrivate(m.getModifiers())) {
                seen.add(signature(m));
                names.add(m.getName());
                c.due(m + " is public and no more", m.getModifiers(), Modifier.PUBLIC);
            }
        }
        c.due("the methods " + seen, seen.equals(due), true);
        noPrivateMethodOfAFaceName(c, names, HandLoom.class);
        c.due("the class", HandLoom.class.getModifiers(), Modifier.PUBLIC | Modifier.FINAL);
        Constructor<?>[] makers = HandLoom.class.getDeclaredConstructors();
        c.due("one constructor", makers.length, 1);
        c.due("without parameters", makers[0].getParameterCount(), 0);
        c.due("which is public", makers[0].getModifiers(), Modifier.PUBLIC);
        for (Field f : HandLoom.class.getDeclaredFields()) {
            boolean isNone = f.getName().equals("NONE");
            c.due(f + " is private, but for NONE", Modifier.isPrivate(f.getModifiers()), !isNone);
            c.due(f + " is final if static", !Modifier.isStatic(f.getModifiers())
                || Modifier.isFinal(f.getModifiers()), true);
        }
        for (Class<?> inside : HandLoom.class.getDeclaredClasses()) {
            c.due(inside + " is static", Modifier.isStatic(inside.getModifiers()), true);
            c.due(inside + " is private", Modifier.isPrivate(inside.getModifiers()), true);
            noPrivateMethodOfAFaceName(c, names, inside);
        }
        c.close();
    }

    private static void noPrivateMethodOfAFaceName(Check c, Set<String> names, Class<?> where) {
        for (Method m : where.getDeclaredMethods()) {
            boolean isFace = where == HandLoom.class && Modifier.isPublic(m.getModifiers());
            c.due(m + " bears no name of the face", isFace || !names.contains(m.getName()), true);
        }
    }

    private static String signature(Method m) {
        StringBuilder text = new StringBuilder(m.getReturnType() + " " + m.getName() + "(");
        for (Class<?> type : m.getParameterTypes()) {
            text.append(text.charAt(text.length() - 1) == '(' ? "" : ",").append(type);
        }
        return text.append(")").toString();
    }
}
