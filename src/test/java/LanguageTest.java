import java.io.IOException;
import java.lang.reflect.Executable;
import java.lang.reflect.Field;
import java.lang.reflect.Method;
import java.lang.reflect.Modifier;
import java.nio.file.Files;
import java.nio.file.Path;
import java.util.ArrayList;
import java.util.HashSet;
import java.util.List;
import java.util.Set;
import java.util.regex.Matcher;
import java.util.regex.Pattern;

/** The rules of LANGUAGE.md that can be seen from the class and from its source; it is run in the project's folder. */
public final class LanguageTest {
    private static final Path SOURCE = Path.of("src", "main", "java", "SizeForms.java");
    private static final int MOST_PARAMETERS = 7, MOST_LINES = 60, MOST_CLASSES = 12, MOST_FIELDS = 20;

    private final Due due = new Due("LanguageTest");
    private final List<Class<?>> classes = new ArrayList<>();
    private final String written;
    private final String code;

    private LanguageTest() throws IOException {
        classes.add(SizeForms.class);
        for (Class<?> inside : SizeForms.class.getDeclaredClasses()) {
            classes.add(inside);
        }
        written = Files.readString(SOURCE);
        code = withoutCommentsAndTexts(written);
    }

    public static void main(String[] args) throws IOException {
        LanguageTest test = new LanguageTest();
        test.oneFileWithOneImport();
        test.classesInside();
        test.noPrivateMethodBearsAPublicName();
        test.typesOfMembers();
        test.staticFieldsAreConstants();
        test.libraryCalls();
        test.wordsThatAreRuledOut();
        test.whatIsThrown();
        test.outThrowsByItself();
        test.sizesOfMethodsAndClasses();
        test.due.end();
    }

    private void holds(String rule, boolean is) {
        due.same(rule, is ? 1 : 0, 1);
    }

    private static String withoutCommentsAndTexts(String source) {
        String withoutBlocks = Pattern.compile("/\\*.*?\\*/", Pattern.DOTALL).matcher(source).replaceAll("");
        return withoutBlocks.replaceAll("//[^\n]*", "").replaceAll("\"[^\"\n]*\"", "\"\"");
    }

    private void oneFileWithOneImport() {
        holds("no package line", !Pattern.compile("^\\s*package\\b", Pattern.MULTILINE).matcher(code).find());
        Matcher imported = Pattern.compile("^import (.*);$", Pattern.MULTILINE).matcher(code);
        while (imported.find()) {
            holds("rule 4: import " + imported.group(1), imported.group(1).equals("java.util.Arrays"));
        }
        holds("rule 4: no class by its long name", !Pattern.compile("\\bjavax?\\.").matcher(
                code.replaceAll("(?m)^import .*$", "")).find());
    }

    private void classesInside() {
        for (Class<?> inside : SizeForms.class.getDeclaredClasses()) {
            int modifiers = inside.getModifiers();
            holds("rule 1: " + inside.getName() + " is static", Modifier.isStatic(modifiers));
            holds("rule 1: " + inside.getName() + " is not seen from outside",
                    !Modifier.isPublic(modifiers) && !Modifier.isProtected(modifiers));
            due.same("classes inside " + inside.getName(), inside.getDeclaredClasses().length, 0);
        }
        holds("rule 2: no lambda", !code.contains("->"));
        holds("rule 2: no method reference", !code.contains("::"));
    }

    private void noPrivateMethodBearsAPublicName() {
        Set<String> face = new HashSet<>();
        for (Method method : SizeForms.class.getDeclaredMethods()) {
            if (Modifier.isPublic(method.getModifiers())) {
                face.add(method.getName());
            }
        }
        for (Class<?> owner : classes) {
            for (Method method : owner.getDeclaredMethods()) {
                holds("rule 1: the name of " + method,
                        Modifier.isPublic(method.getModifiers()) || !face.contains(method.getName()));
                holds("rule 2: written, not made by the compiler: " + method, !method.isSynthetic());
            }
        }
    }

    private void typesOfMembers() {
        for (Class<?> owner : classes) {
            for (Field field : owner.getDeclaredFields()) {
                holds("rule 3: the type of " + field, isAllowed(field.getType()));
            }
            for (Executable made : methodsAndConstructors(owner)) {
                for (Class<?> type : made.getParameterTypes()) {
                    holds("rule 3: a parameter of " + made, isAllowed(type));
                }
                holds("rule 11: the parameters of " + made, made.getParameterCount() <= MOST_PARAMETERS);
            }
            for (Method method : owner.getDeclaredMethods()) {
                holds("rule 3: the answer of " + method,
                        method.getReturnType() == void.class || isAllowed(method.getReturnType()));
            }
        }
        holds("rule 3: no doubles and floats, so none that is NaN",
                !Pattern.compile("\\b(double|float|Double|Float)\\b").matcher(code).find());
    }

    private boolean isAllowed(Class<?> type) {
        Class<?> element = type.isArray() ? type.getComponentType() : type;
        return element.isPrimitive() || classes.contains(element);
    }

    private static List<Executable> methodsAndConstructors(Class<?> owner) {
        List<Executable> all = new ArrayList<>(List.of(owner.getDeclaredMethods()));
        all.addAll(List.of(owner.getDeclaredConstructors()));
        return all;
    }

    private void staticFieldsAreConstants() {
        Set<Class<?>> types = Set.of(int.class, long.class, boolean.class, char.class, String.class,
                int[].class, long[].class, char[].class, byte[].class);
        for (Class<?> owner : classes) {
            for (Field field : owner.getDeclaredFields()) {
                if (Modifier.isStatic(field.getModifiers())) {
                    holds("rule 5: " + field + " is final", Modifier.isFinal(field.getModifiers()));
                    holds("rule 5: the type of " + field, types.contains(field.getType()));
                }
            }
        }
        holds("rule 5: no static initialiser block", !Pattern.compile("\\bstatic\\s*\\{").matcher(code).find());
        Matcher arrays = Pattern.compile("static final \\w+\\[\\] (\\w+) = (.)").matcher(code);
        while (arrays.find()) {
            String name = arrays.group(1);
            holds("rule 5: " + name + " is written out", arrays.group(2).equals("{"));
            holds("rule 5: " + name + " is never changed",
                    !Pattern.compile("\\b" + name + "\\[[^\\]]*\\]\\s*(=[^=]|[-+*/%&|^]=|\\+\\+|--)").matcher(code).find());
        }
    }

    private void libraryCalls() {
        Set<String> allowed = Set.of("Arrays.copyOf", "Arrays.copyOfRange", "Arrays.fill", "System.arraycopy",
                "Math.max", "Math.min", "Math.abs");
        Matcher calls = Pattern.compile("\\b([A-Z][a-z]\\w*)\\.(\\w+)").matcher(code);
        while (calls.find()) {
            holds("rule 4: " + calls.group(), allowed.contains(calls.group()));
        }
    }

    private void wordsThatAreRuledOut() {
        String[] words = {
            "try", "catch", "finally", "synchronized", "assert", "volatile", "native", "var", "Thread", "Random",
            "Exact", "equals", "hashCode", "toString", "getClass", "Object", "Throwable", "Exception", "Error"
        };
        for (String word : words) {
            holds("rules 6 and 13: no " + word, !Pattern.compile("\\b" + word + "\\b").matcher(code).find());
        }
    }

    /** Rule 6 lets a call throw only what the document says, and where: two exceptions, and both in out. */
    private void whatIsThrown() {
        List<String> thrown = new ArrayList<>();
        Matcher matcher = Pattern.compile("\\bthrow\\s+([^;]*);").matcher(code);
        while (matcher.find()) {
            thrown.add(matcher.group(1));
        }
        due.same("rule 6: how often something is thrown", thrown.size(), 2);
        holds("rule 6: IllegalStateException", thrown.contains("new IllegalStateException(\"\")"));
        holds("rule 6: ArrayIndexOutOfBoundsException", thrown.contains("new ArrayIndexOutOfBoundsException(\"\")"));
        int from = code.indexOf("public int out(int i)");
        int to = code.indexOf("public int member(");
        holds("rule 6: only out throws", from >= 0 && code.indexOf("throw ") > from && code.lastIndexOf("throw ") < to);
    }

    /** Rule 7: the machine would tell the index in the text, or throw from a method that out calls. */
    private void outThrowsByItself() {
        int[] indices = {Integer.MIN_VALUE, -1, 0, 3, 4, 150, 151, Integer.MAX_VALUE};
        for (int i : indices) {
            thrownByOut("a new object", new SizeForms(), i);
            SizeForms empty = new SizeForms();
            empty.widen();
            thrownByOut("widened without a unit", empty, i);
            SizeForms three = new SizeForms();
            three.unit(0, 3, 7);
            three.widen();
            if (i < 0 || i > 2) {
                thrownByOut("three bytes", three, i);
            }
        }
    }

    private void thrownByOut(String state, SizeForms forms, int i) {
        try {
            forms.out(i);
            holds("rule 7: " + state + ": out(" + i + ") throws", false);
        } catch (IllegalStateException | ArrayIndexOutOfBoundsException e) {
            StackTraceElement[] trace = e.getStackTrace();
            holds("rule 7: " + state + ": out(" + i + ") throws it itself: " + e,
                    trace.length > 0 && trace[0].getMethodName().equals("out") && !e.getMessage().contains("Index"));
        }
    }

    private void sizesOfMethodsAndClasses() {
        holds("rule 11: " + classes.size() + " classes", classes.size() <= MOST_CLASSES);
        for (Class<?> owner : classes) {
            int fields = 0;
            for (Field field : owner.getDeclaredFields()) {
                fields += Modifier.isStatic(field.getModifiers()) ? 0 : 1;
            }
            holds("rule 11: " + fields + " fields of " + owner.getName(), fields <= MOST_FIELDS);
        }
        due.same("rule 11: methods whose lines are counted", countMethodsByTheirLines(), countMethods());
    }

    private int countMethodsByTheirLines() {
        int methods = 0;
        // A method ends with a brace that stands as far in as its first line does.
        Matcher bodies = Pattern.compile("^( {4}| {8})(\\w[^;{}\n]*\\([^;{}\n]*\\)[^;{}\n]*) \\{\n(.*?)^\\1\\}",
                Pattern.MULTILINE | Pattern.DOTALL).matcher(written);
        while (bodies.find()) {
            String head = bodies.group(2);
            if (!head.matches("(if|for|while|switch|do)\\b.*")) {
                holds("rule 11: the lines of " + head, bodies.group(3).split("\n").length + 2 <= MOST_LINES);
                methods += head.matches("(public )?[A-Z]\\w*\\(.*") ? 0 : 1;
            }
        }
        return methods;
    }

    private int countMethods() {
        int methods = 0;
        for (Class<?> owner : classes) {
            for (Method method : owner.getDeclaredMethods()) {
                methods += Modifier.isAbstract(method.getModifiers()) ? 0 : 1;
            }
        }
        return methods;
    }
}
