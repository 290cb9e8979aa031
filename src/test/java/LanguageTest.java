import java.io.IOException;
import java.lang.reflect.Constructor;
import java.lang.reflect.Field;
import java.lang.reflect.Method;
import java.lang.reflect.Modifier;
import java.nio.file.Files;
import java.nio.file.Path;
import java.util.ArrayList;
import java.util.Arrays;
import java.util.List;
import java.util.Set;
import java.util.TreeSet;
import java.util.regex.Matcher;
import java.util.regex.Pattern;

/** The rules of LANGUAGE.md that can be told by looking at the class and its text. */
public final class LanguageTest {
    private static final String[] FACE = {
        "int map(int,int,int) IllegalArgumentException IllegalStateException",
        "int add(int,int,int,int,int) IllegalStateException",
        "int check() IllegalStateException",
        "void clear()",
        "int feed(int,int,int,int,int) IndexOutOfBoundsException",
        "int end(int) IllegalArgumentException",
        "void seed(long)",
        "long run() IllegalStateException",
        "int letter(int) NoSuchElementException",
        "int place(int,int,int) NoSuchElementException",
        "long log(int) NoSuchElementException",
        "long known(int,int,int) IllegalArgumentException NoSuchElementException",
        "int count(int)",
    };
    private static final String[] RULED_OUT = {"->", "::", "\\bprotected\\b", "\\bfinally\\b", "\\bsynchronized\\b",
        "\\bassert\\b", "\\btry\\b", "\\bstatic \\{", "\\bSystem\\.(?!arraycopy)", "Exact\\b", "\\bvar\\b",
        "\\bRandom\\b", "\\bThread\\b", "\\[\\]\\[\\]\\[\\]", "\\bwhile \\(true\\)", "\\bfor \\(;;\\)"};

    public static void main(String[] args) throws IOException {
        face();
        classes();
        text();
        Asked.end();
    }

    private static void face() {
        int modifiers = FilterGuard.class.getModifiers();
        Asked.due("public and final", 1, Modifier.isPublic(modifiers) && Modifier.isFinal(modifiers) ? 1 : 0);
        Set<String> got = new TreeSet<>();
        Set<String> privates = new TreeSet<>();
        Set<String> publics = new TreeSet<>();
        for (Method m : FilterGuard.class.getDeclaredMethods()) {
            if (Modifier.isPrivate(m.getModifiers())) {
                privates.add(m.getName());
                continue;
            }
            publics.add(m.getName());
            StringBuilder told = new StringBuilder(m.getReturnType() + " " + m.getName() + "(");
            for (int p = 0; p < m.getParameterCount(); p++) {
                told.append(p == 0 ? "" : ",").append(m.getParameterTypes()[p]);
            }
            told.append(")");
            for (Class<?> e : m.getExceptionTypes()) {
                told.append(" ").append(e.getSimpleName());
            }
            got.add(told.toString());
        }
        Asked.due("the face " + got, 1, got.equals(new TreeSet<>(Arrays.asList(FACE))) ? 1 : 0);
        privates.retainAll(publics);
        Asked.due("private ones with public names " + privates, 0, privates.size());
        Constructor<?>[] constructors = FilterGuard.class.getDeclaredConstructors();
        Asked.due("one constructor", 1, constructors.length);
        Asked.due("a public one", 1, Modifier.isPublic(constructors[0].getModifiers()) ? 1 : 0);
        for (Field f : FilterGuard.class.getDeclaredFields()) {
            Asked.due("private: " + f.getName(), 1, Modifier.isPrivate(f.getModifiers()) ? 1 : 0);
        }
    }

    private static void classes() {
        List<Class<?>> all = new ArrayList<>(Arrays.asList(FilterGuard.class.getDeclaredClasses()));
        for (Class<?> c : all) {
            Asked.due("static: " + c, 1, Modifier.isStatic(c.getModifiers()) ? 1 : 0);
            Asked.due("not public: " + c, 0, Modifier.isPublic(c.getModifiers()) ? 1 : 0);
        }
        all.add(FilterGuard.class);
        Asked.due("at most twelve classes, not " + all.size(), 1, all.size() <= 12 ? 1 : 0);
        for (Class<?> c : all) {
            int fields = 0;
            for (Field f : c.getDeclaredFields()) {
                if (Modifier.isStatic(f.getModifiers())) {
                    Asked.due("final: " + f, 1, Modifier.isFinal(f.getModifiers()) ? 1 : 0);
                } else {
                    fields++;
                }
            }
            Asked.due("at most twenty fields: " + c, 1, fields <= 20 ? 1 : 0);
            for (Method m : c.getDeclaredMethods()) {
                Asked.due("at most seven parameters: " + m, 1, m.getParameterCount() <= 7 ? 1 : 0);
            }
        }
    }

    private static void text() throws IOException {
        String text = Files.readString(Path.of("src/main/java/FilterGuard.java"));
        String code = text.replaceAll("(?s)/\\*.*?\\*/", "").replaceAll("//.*", "").replaceAll("\"[^\"\n]*\"", "\"\"");
        for (String ruledOut : RULED_OUT) {
            Matcher m = Pattern.compile(ruledOut).matcher(code);
            Asked.due("no " + ruledOut, 0, m.find() ? 1 : 0);
        }
        Matcher imports = Pattern.compile("import ([\\w.*]+);").matcher(code);
        while (imports.find()) {
            String name = imports.group(1);
            boolean right = name.equals("java.util.Arrays") || name.equals("java.util.NoSuchElementException");
            Asked.due("import " + name, 1, right ? 1 : 0);
        }
        String[] lines = text.split("\n");
        int start = 0;
        for (int n = 0; n < lines.length; n++) {
            if (lines[n].matches(" {4}( {4})?\\w.*\\) (throws .*)?\\{")) {
                start = n;
            } else if (lines[n].matches(" {4}( {4})?\\}")) {
                Asked.due("at most sixty lines: " + lines[start], 1, n - start < 60 || lines[start].isBlank() ? 1 : 0);
                start = n;
            }
        }
    }
}
