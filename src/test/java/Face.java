import java.lang.reflect.Constructor;
import java.lang.reflect.Field;
import java.lang.reflect.Method;
import java.lang.reflect.Modifier;
import java.nio.file.Files;
import java.nio.file.Path;
import java.util.Set;
import java.util.TreeSet;
import java.util.regex.Matcher;
import java.util.regex.Pattern;

/** The document's face, no more and no less; and the rules of LANGUAGE.md that words of the source can break. */
public final class Face {
    private static final String[] METHODS = {
        "int wheel(int,long)", "int turn(int,long)", "long wheelOf(int,int)", "int register(int)", "int load(int,int,long)",
        "long read(int,int)", "int move(int,int)", "int take(int,int)", "int work(int,int,int,int)", "int strip(int,int)",
        "int tear(int)", "int keep(int,int,int,int)", "long kept(int,int,int)", "int rests(int,int)", "int pointer(int,int)",
        "int stand(int,int)", "int set(int,int,int)", "int hang(int,int,int)", "long show(int,int)", "long all(int)",
        "int count(int)", "int often(int)", "int refused()"};
    private static final String[] CONSTANTS = {"NONE", "BAD", "FULL", "SPUN", "VOID", "ZERO", "CAST", "INDEX", "STORE", "NULL"};
    private static final String[] RULED_OUT = {
        "throw", "throws", "try", "catch", "finally", "synchronized", "assert", "import", "package", "strictfp", "native",
        "Double", "Float", "System", "Object", "Exception", "equals", "hashCode", "toString", "->", "::", "Exact"};
    private static int wrong = 0;

    public static void main(String[] args) throws Exception {
        face();
        inside();
        words();
        System.out.println(wrong == 0 ? "the face is as told" : wrong + " things are not as told");
        if (wrong != 0) System.exit(1);
    }

    private static void due(boolean holds, String what) {
        if (holds) return;
        wrong++;
        System.out.println("not so: " + what);
    }

    private static void face() throws Exception {
        Class<?> c = OrreryWorks.class;
        due(Modifier.isPublic(c.getModifiers()) && Modifier.isFinal(c.getModifiers()), "the class is public and final");
        due(c.getSuperclass() == Object.class && c.getInterfaces().length == 0, "the class stands by itself");
        Constructor<?>[] made = c.getDeclaredConstructors();
        due(made.length == 1 && Modifier.isPublic(made[0].getModifiers()) && made[0].getParameterCount() == 0, "one public constructor");
        Set<String> found = new TreeSet<>();
        Set<String> publicNames = new TreeSet<>();
        for (Method m : c.getDeclaredMethods()) {
            if (Modifier.isPrivate(m.getModifiers()) || m.isSynthetic()) continue;
            due(Modifier.isPublic(m.getModifiers()) && !Modifier.isStatic(m.getModifiers()), m + " is public, not static");
            found.add(told(m));
            publicNames.add(m.getName());
        }
        due(found.equals(new TreeSet<>(Set.of(METHODS))), "the public methods are the document's: " + found);
        for (Method m : c.getDeclaredMethods()) {
            due(!Modifier.isPrivate(m.getModifiers()) || !publicNames.contains(m.getName()), m + " bears a public name");
        }
        Set<String> constants = new TreeSet<>();
        for (Field f : c.getDeclaredFields()) {
            if (Modifier.isPrivate(f.getModifiers()) || f.isSynthetic()) continue;
            due(Modifier.isPublic(f.getModifiers()) && Modifier.isStatic(f.getModifiers()) && Modifier.isFinal(f.getModifiers()), f + " is a constant");
            constants.add(f.getName());
        }
        due(constants.equals(new TreeSet<>(Set.of(CONSTANTS))), "the public constants are the document's: " + constants);
        for (int i = 0; i < CONSTANTS.length; i++) due(c.getField(CONSTANTS[i]).getInt(null) == -1 - i, CONSTANTS[i] + " is " + (-1 - i));
    }

    private static String told(Method m) {
        StringBuilder told = new StringBuilder(m.getReturnType() + " " + m.getName() + "(");
        for (Class<?> type : m.getParameterTypes()) told.append(told.charAt(told.length() - 1) == '(' ? "" : ",").append(type);
        return told.append(")").toString();
    }

    private static void inside() {
        Set<String> publicNames = new TreeSet<>();
        for (Method m : OrreryWorks.class.getMethods()) if (m.getDeclaringClass() == OrreryWorks.class) publicNames.add(m.getName());
        Class<?>[] classes = OrreryWorks.class.getDeclaredClasses();
        due(classes.length <= 11, "twelve classes at most");
        for (Class<?> c : classes) {
            due(Modifier.isStatic(c.getModifiers()) && !Modifier.isPublic(c.getModifiers()) && !Modifier.isProtected(c.getModifiers()), c + " is static and not to be seen");
            statics(c);
            for (Method m : c.getDeclaredMethods()) {
                due(m.getParameterCount() <= 7, m + " takes seven parameters at most");
                due(!publicNames.contains(m.getName()), m + " bears a public name");
            }
        }
        statics(OrreryWorks.class);
    }

    private static void statics(Class<?> c) {
        for (Field f : c.getDeclaredFields()) {
            if (!Modifier.isStatic(f.getModifiers()) || f.isSynthetic()) continue;
            due(Modifier.isFinal(f.getModifiers()) && Set.of("int", "long", "boolean", "char").contains(f.getType().toString()), f + " is a constant of a kind that may be static");
        }
    }

    private static void words() throws Exception {
        String source = Files.readString(Path.of("src/main/java/OrreryWorks.java"));
        String code = source.replaceAll("(?s)/\\*.*?\\*/", " ").replaceAll("//[^\n]*", " ");
        for (String word : RULED_OUT) {
            boolean isWord = Character.isLetter(word.charAt(0)) && !word.equals("Exact");
            Matcher m = Pattern.compile(isWord ? "\\b" + word + "\\b" : Pattern.quote(word)).matcher(code);
            due(!m.find(), "the source does without '" + word + "'");
        }
    }
}
