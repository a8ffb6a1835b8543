import java.lang.reflect.Constructor;
import java.lang.reflect.Field;
import java.lang.reflect.Method;
import java.lang.reflect.Modifier;
import java.nio.charset.StandardCharsets;
import java.nio.file.Files;
import java.nio.file.Path;
import java.util.Arrays;
import java.util.List;
import java.util.TreeSet;
import java.util.regex.Matcher;
import java.util.regex.Pattern;

/** The public face as the document tells it, and what LANGUAGE.md rules out, as far as a look at the file can tell. */
final class LanguageTest {
    private static final Check check = new Check("LanguageTest");
    private static final List<String> FACE = Arrays.asList(
        "int status()", "long top()", "long bottom()", "boolean tray(int,int,int)", "boolean write(int,int,long)", "long read(int,int)",
        "boolean pour(int,int,int,int,int)", "int feed(int,int,int,int,int)", "int school(int)", "int age(int)", "int fault(int)",
        "int many(int)", "int lesson(int,int)", "int child(int,int)", "int letter(int,int,int)", "int teaches(int)", "int copyName(int,int)",
        "int learn(int,int)", "int lose(int,int)", "int rest(int,int)", "int pay(int,int)", "int ready(int,int)", "int takes(int,int)",
        "int opens(int,int)", "int choice(int)", "int said(int)", "int stumbles(int)", "int drop(int)", "int firm(int)", "int weak(int)",
        "int vowels(int)", "int rhyme(int,int)", "int apart(int,int)", "int behind(int,int)", "int life(int,int)", "int soonest(int,int)",
        "int cheapest(int,int)", "long ways(int,int)", "int first(int,int)", "int firstAt(int)", "int goes(int,int)", "long lives(int)",
        "long orders(int)", "int reach(int)", "boolean sayable(int)", "int root()", "int plans()", "int waited(int)", "int began(int,int)",
        "int live(int)", "int lived(int)", "boolean odds(int,int,int)", "int mark()", "int back()");

    public static void main(String[] args) throws Exception {
        face();
        classesInside();
        source(Files.readString(Path.of(args.length > 0 ? args[0] : ".", "src/main/java/LetterNames.java"), StandardCharsets.ISO_8859_1));
        check.finish();
    }

    private static void face() throws Exception {
        TreeSet<String> told = new TreeSet<>();
        TreeSet<String> names = new TreeSet<>();
        for (Method m : LetterNames.class.getDeclaredMethods()) {
            if (Modifier.isPrivate(m.getModifiers())) {
                names.add(m.getName());
                continue;
            }
            check.due(m.getName() + " is public and of the object", Modifier.isPublic(m.getModifiers()) && !Modifier.isStatic(m.getModifiers()), true);
            StringBuilder text = new StringBuilder(m.getReturnType().getName()).append(' ').append(m.getName()).append('(');
            for (int i = 0; i < m.getParameterCount(); i++) {
                text.append(i == 0 ? "" : ",").append(m.getParameterTypes()[i].getName());
            }
            told.add(text.append(')').toString());
        }
        check.due("the face is that of the document", told.equals(new TreeSet<>(FACE)), true);
        for (String call : FACE) {
            check.due("no private method has the name of " + call, names.contains(nameOf(call)), false);
        }
        for (Field f : LetterNames.class.getDeclaredFields()) {
            boolean none = f.getName().equals("NONE");
            check.due("field " + f.getName(), none ? Modifier.isPublic(f.getModifiers()) : Modifier.isPrivate(f.getModifiers()), true);
        }
        Constructor<?>[] constructors = LetterNames.class.getDeclaredConstructors();
        check.due("one constructor", constructors.length, 1);
        check.due("it is public", Modifier.isPublic(constructors[0].getModifiers()) && constructors[0].getParameterCount() == 0, true);
        check.due("the class is final", Modifier.isFinal(LetterNames.class.getModifiers()), true);
    }

    private static String nameOf(String call) {
        return call.substring(call.indexOf(' ') + 1, call.indexOf('('));
    }

    private static void classesInside() {
        Class<?>[] inside = LetterNames.class.getDeclaredClasses();
        check.due("at most twelve classes", inside.length < 12, true);
        for (Class<?> c : inside) {
            check.due(c.getName() + " is static", Modifier.isStatic(c.getModifiers()), true);
            int fields = 0;
            for (Field f : c.getDeclaredFields()) {
                boolean fixed = Modifier.isStatic(f.getModifiers());
                check.due("static " + f.getName() + " is final", !fixed || Modifier.isFinal(f.getModifiers()), true);
                fields += fixed ? 0 : 1;
            }
            check.due(c.getName() + " has at most twenty fields", fields <= 20, true);
            for (Method m : c.getDeclaredMethods()) {
                check.due(m.getName() + " takes at most seven", m.getParameterCount() <= 7, true);
                for (String call : FACE) {
                    check.due("a method inside with the name of " + call, m.getName().equals(nameOf(call)), false);
                }
            }
        }
    }

    private static void source(String text) {
        for (char c : text.toCharArray()) {
            if (c > 126 || c < 32 && c != '\n') {
                check.due("sign " + (int) c + " in the file", true, false);
            }
        }
        String code = text.replaceAll("(?s)/\\*.*?\\*/", " ").replaceAll("//[^\n]*", " ").replaceAll("\"[^\"]*\"", "\"\"");
        String[] ruledOut = {"\\bthrow\\b", "\\btry\\b", "\\bcatch\\b", "\\bsynchronized\\b", "\\bassert\\b", "->", "::", "\\bpackage\\b",
            "\\bimport\\b", "\\bnull\\b", "\\w+Exact\\b", "\\bhashCode\\b", "\\btoString\\b", "\\bequals\\b", "\"\\s*\\+", "\\+\\s*\"",
            "\\bdouble\\b", "\\bfloat\\b", "\\bprotected\\b", "\\bRandom\\b", "\\bcurrentTimeMillis\\b", "\\bnanoTime\\b", "\\bThread\\b", "static\\s*\\{"};
        for (String pattern : ruledOut) {
            Matcher m = Pattern.compile(pattern).matcher(code);
            check.due("ruled out: " + pattern, m.find(), false);
        }
        Matcher calls = Pattern.compile("\\b(System|Math|Integer|Long|Arrays|String)\\.(\\w+)").matcher(code);
        List<String> allowed = Arrays.asList("System.arraycopy", "Math.max", "Math.min", "Integer.bitCount");
        while (calls.find()) {
            check.due("a call of the library: " + calls.group(), allowed.contains(calls.group()), true);
        }
        int longest = 0;
        int begin = 0;
        String[] lines = text.split("\n");
        for (int i = 0; i < lines.length; i++) {
            if (lines[i].matches("( {4}| {8})(public|private|static|boolean|int|long|void|char|Reader|School)\\b.*\\) \\{")) {
                begin = i;
            } else if (lines[i].equals("    }") || lines[i].equals("        }")) {
                longest = begin == 0 ? longest : Math.max(longest, i - begin);
                begin = 0;
            }
        }
        check.due("methods of at most sixty lines", longest <= 60, true);
    }
}
