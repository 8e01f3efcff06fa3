import java.lang.reflect.Constructor;
import java.lang.reflect.Field;
import java.lang.reflect.Method;
import java.lang.reflect.Modifier;
import java.nio.charset.StandardCharsets;
import java.nio.file.Files;
import java.nio.file.Path;
import java.util.Set;
import java.util.TreeSet;
import java.util.regex.Matcher;
import java.util.regex.Pattern;

/** The rules of LANGUAGE.md that can be looked at by a machine, over NewRays and its source. */
public final class LanguageTest {
    private static final String[] FACE = {
        "int write(int)", "int wipe()", "int fault()", "int room()", "int reader(int,int)", "int sample(int,int)",
        "int bright(int,int)", "int read(int,int)", "int rest(int)", "int withdraw(int,int)", "int prism()",
        "int tell()", "int undo()", "int fooled(int)", "int truly(int)", "int cover()", "int wrong(boolean)",
        "int judge(int,int)", "int hear(int,int,int,int)", "int unhear()", "int expect(int)",
        "int gone(int,int,int,int)", "int share(int,boolean)", "int rests(int,int,int,int)",
        "int flicker(int,int,int,boolean)", "long seed(long)", "int winters(int)", "int keep(int)",
        "int again(int)", "int count(int)"};
    private static final String[] BARRED = {
        "\\bthrow\\b", "\\bthrows\\b", "\\btry\\b", "\\bcatch\\b", "\\bsynchronized\\b", "\\bassert\\b", "\\bimport\\b",
        "\\bpackage\\b", "->", "::", "\\bdouble\\b", "\\bfloat\\b", "\\bSystem\\b", "\\bThread\\b", "\\bObject\\b",
        "Exact\\b", "\\bstatic\\s*\\{", "\\bnative\\b", "\\bvolatile\\b", "\\btransient\\b", "@"};

    public static void main(String[] args) throws Exception {
        theFace();
        classesInside();
        String source = Files.readString(Path.of("src/main/java/NewRays.java"), StandardCharsets.ISO_8859_1);
        theSource(source);
        methodsOf(withoutComments(source));
        Due.end();
    }

    private static void theFace() {
        Set<String> due = new TreeSet<>(Set.of(FACE));
        Set<String> there = new TreeSet<>();
        Set<String> hidden = new TreeSet<>();
        for (Method method : NewRays.class.getDeclaredMethods()) {
            if (Modifier.isPublic(method.getModifiers())) {
                there.add(told(method));
            } else {
                hidden.add(method.getName());
                Due.holds(method + " is private", Modifier.isPrivate(method.getModifiers()));
            }
        }
        Due.holds("the public methods are those of the document: " + there, there.equals(due));
        for (String face : FACE) {
            String name = face.substring(face.indexOf(' ') + 1, face.indexOf('('));
            Due.holds("no private method is named " + name, !hidden.contains(name));
        }
        int modifiers = NewRays.class.getModifiers();
        Due.holds("public and final", Modifier.isPublic(modifiers) && Modifier.isFinal(modifiers));
        Constructor<?>[] constructors = NewRays.class.getDeclaredConstructors();
        Due.is("constructors", constructors.length, 1);
        Due.holds("the public one without arguments",
            Modifier.isPublic(constructors[0].getModifiers()) && constructors[0].getParameterCount() == 0);
        theFields();
    }

    private static String told(Method method) {
        StringBuilder text = new StringBuilder(method.getReturnType() + " " + method.getName() + "(");
        for (Class<?> type : method.getParameterTypes()) {
            text.append(text.charAt(text.length() - 1) == '(' ? "" : ",").append(type);
        }
        return text.append(')').toString();
    }

    private static void theFields() {
        Set<String> open = new TreeSet<>();
        for (Field field : NewRays.class.getDeclaredFields()) {
            int modifiers = field.getModifiers();
            if (Modifier.isPublic(modifiers)) {
                open.add(field.getName());
            } else {
                Due.holds(field + " is private", Modifier.isPrivate(modifiers));
            }
            Due.holds(field + " is final, if static", !Modifier.isStatic(modifiers) || Modifier.isFinal(modifiers));
        }
        Due.holds("the constants are those of the document: " + open,
            open.equals(Set.of("UNKNOWN", "OUTSIDE", "STATE", "FULL", "NONE")));
    }

    private static void classesInside() {
        Class<?>[] inside = NewRays.class.getDeclaredClasses();
        Due.holds("at most twelve classes", inside.length <= 11);
        for (Class<?> one : inside) {
            int modifiers = one.getModifiers();
            Due.holds(one + " is static", Modifier.isStatic(modifiers));
            Due.holds(one + " is not open", !Modifier.isPublic(modifiers) && !Modifier.isProtected(modifiers));
            Due.holds(one + " has few fields", one.getDeclaredFields().length <= 20);
        }
    }

    private static String withoutComments(String source) {
        return source.replaceAll("(?s)/\\*.*?\\*/", "").replaceAll("//[^\n]*", "");
    }

    private static void theSource(String source) {
        String code = withoutComments(source);
        for (String barred : BARRED) {
            Due.holds(barred + " is barred", !Pattern.compile(barred).matcher(code).find());
        }
        for (int i = 0; i < source.length(); i++) {
            char sign = source.charAt(i);
            if (sign > 126 || sign < 32 && sign != '\n') {
                Due.holds("plain signs alone, not " + (int) sign, false);
            }
        }
    }

    /** Methods stay short, take seven at most, and make nothing: what a call makes is never given back. */
    private static void methodsOf(String code) {
        Pattern head = Pattern.compile("(?m)^( {4}| {8})((?:\\w+(?:\\[\\])? )*)(\\w+)\\(([^)]*)\\) \\{\n");
        Matcher each = head.matcher(code);
        int methods = 0;
        while (each.find()) {
            methods++;
            int end = code.indexOf("\n" + each.group(1) + "}", each.end() - 1);
            String body = code.substring(each.end(), Math.max(each.end(), end));
            String name = each.group(3);
            Due.holds(name + " is short", body.chars().filter(c -> c == '\n').count() < 60);
            Due.holds(name + " takes seven at most", each.group(4).split(",").length <= 7);
            boolean constructor = Character.isUpperCase(name.charAt(0));
            Due.holds(name + " makes nothing", constructor || !Pattern.compile("\\bnew\\b").matcher(body).find());
        }
        Due.holds("methods were found: " + methods, methods > FACE.length);
    }
}
