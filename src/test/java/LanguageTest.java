import java.io.IOException;
import java.lang.reflect.Constructor;
import java.lang.reflect.Field;
import java.lang.reflect.Method;
import java.lang.reflect.Modifier;
import java.nio.file.Files;
import java.nio.file.Path;
import java.util.ArrayList;
import java.util.Arrays;
import java.util.Collections;
import java.util.HashSet;
import java.util.List;
import java.util.Set;
import java.util.regex.Matcher;
import java.util.regex.Pattern;

/** The rules of ../shared/LANGUAGE.md that can be seen in the source or in the class. */
final class LanguageTest {
    private static final List<String> FACE = List.of(
            "field(int,int)int", "ofField(int,int)int", "tellings(int,int)int", "ofOwner(int,int)int",
            "become(int,int)int", "as(int,int)int", "set(int,int,int)int", "fear(int,int)int", "pace(int)int",
            "forgets(int)int", "tells(int,int)int", "loose(int)int", "feed(long,int)int", "text(int)int",
            "law(int,int,int,int)int", "needed(int,int)int", "coach(int)int", "gain(int,int)int",
            "turns(int,int,int)int", "one(int,int)int", "fears(int,int)int", "silence(int,int)int",
            "odds(int,int)long", "seed(int)int", "voice(int,int,int)int", "trace(int)int", "sheet(int,int,int)int",
            "put(int,int,int)int", "move(int,int,int,int,int)int", "acres(int)int", "judge(int)int", "image()int",
            "restore()int", "tell(int)int", "check()int", "count(int)int", "told(int)int");
    private static final List<String> NEVER = List.of(
            "package", "throw", "throws", "try", "catch", "finally", "synchronized", "assert", "native", "strictfp",
            "volatile", "transient", "goto", "var", "Object", "Exception", "Error", "Throwable", "Thread", "Random",
            "equals", "hashCode", "toString", "getClass", "float", "double", "protected", "addExact", "toIntExact");
    private static final Set<String> LIBRARY = Set.of(
            "Arrays.fill", "Arrays.copyOf", "Arrays.copyOfRange", "System.arraycopy", "Math.max", "Math.min", "Math.abs");

    private LanguageTest() {
    }

    public static void main(String[] args) throws IOException {
        String source = bare(Files.readString(Path.of("src/main/java/FieldsTold.java")));
        hasTheFaceAlone();
        hidesAllElse();
        usesNoOtherWords(source);
        usesNoOtherLibrary(source);
        staysShort(source);
        Checks.end("LanguageTest");
    }

    private static String bare(String source) {
        return source.replaceAll("(?s)/\\*.*?\\*/", " ").replaceAll("\"(\\\\.|[^\"\\\\])*\"", "\"\"")
                .replaceAll("'(\\\\.|[^'\\\\])'", "' '").replaceAll("//[^\\n]*", " ");
    }

    private static void hasTheFaceAlone() {
        List<String> found = new ArrayList<>();
        for (Method method : FieldsTold.class.getDeclaredMethods()) {
            if (Modifier.isPublic(method.getModifiers())) {
                List<String> types = new ArrayList<>();
                for (Class<?> type : method.getParameterTypes()) {
                    types.add(type.getName());
                }
                found.add(method.getName() + "(" + String.join(",", types) + ")" + method.getReturnType());
            }
        }
        List<String> due = new ArrayList<>(FACE);
        Collections.sort(found);
        Collections.sort(due);
        Checks.isTrue("the face is " + found, found.equals(due));
        Constructor<?>[] constructors = FieldsTold.class.getDeclaredConstructors();
        Checks.same("constructors", constructors.length, 1);
        Checks.same("its parameters", constructors[0].getParameterCount(), 0);
        Checks.isTrue("it is public", Modifier.isPublic(constructors[0].getModifiers()));
        Checks.isTrue("the class is public and final",
                Modifier.isPublic(FieldsTold.class.getModifiers()) && Modifier.isFinal(FieldsTold.class.getModifiers()));
    }

    private static void hidesAllElse() {
        Set<String> names = new HashSet<>();
        for (String method : FACE) {
            names.add(method.substring(0, method.indexOf('(')));
        }
        for (Method method : FieldsTold.class.getDeclaredMethods()) {
            boolean isPrivate = Modifier.isPrivate(method.getModifiers());
            Checks.isTrue(method + " is hidden", isPrivate != names.contains(method.getName()));
        }
        for (Field field : FieldsTold.class.getDeclaredFields()) {
            Checks.isTrue(field + " is private", Modifier.isPrivate(field.getModifiers()));
        }
        Class<?>[] inside = FieldsTold.class.getDeclaredClasses();
        Checks.isTrue("at most twelve classes", inside.length < 12);
        for (Class<?> c : inside) {
            Checks.isTrue(c + " is static", Modifier.isStatic(c.getModifiers()));
            Checks.isTrue(c + " is not public", !Modifier.isPublic(c.getModifiers()));
            int fields = 0;
            for (Field field : c.getDeclaredFields()) {
                boolean isStatic = Modifier.isStatic(field.getModifiers());
                Checks.isTrue(field + " is no static state", !isStatic || Modifier.isFinal(field.getModifiers()));
                fields += isStatic ? 0 : 1;
            }
            Checks.isTrue("fields of " + c, fields <= 20);
            for (Method method : c.getDeclaredMethods()) {
                Checks.isTrue(method + " has a name of its own", !names.contains(method.getName()));
                Checks.isTrue(method + " isn't public", !Modifier.isPublic(method.getModifiers()));
                Checks.isTrue("parameters of " + method, method.getParameterCount() <= 7);
            }
        }
    }

    private static void usesNoOtherWords(String source) {
        for (String word : NEVER) {
            Checks.isTrue("the word " + word, !Pattern.compile("\\b" + word + "\\b").matcher(source).find());
        }
        Checks.isTrue("a lambda", !source.contains("->"));
        Checks.isTrue("a method reference", !source.contains("::"));
        Checks.isTrue("an annotation", !source.contains("@"));
        Checks.isTrue("a text joined by +", !source.contains("\"\" +") && !source.contains("+ \"\""));
        Checks.isTrue("a static block", !Pattern.compile("\\bstatic\\s*\\{").matcher(source).find());
        Checks.isTrue("Exact", !source.contains("Exact"));
    }

    private static void usesNoOtherLibrary(String source) {
        Matcher imports = Pattern.compile("\\bimport\\s+([^;]+);").matcher(source);
        while (imports.find()) {
            Checks.same(imports.group(1), imports.group(1).equals("java.util.Arrays") ? 1 : 0, 1);
        }
        Matcher calls = Pattern.compile("\\b(Arrays|System|Math|Integer|Long|Character|String)\\.(\\w+)").matcher(source);
        while (calls.find()) {
            Checks.isTrue("the library's " + calls.group(), LIBRARY.contains(calls.group()));
        }
    }

    private static void staysShort(String source) {
        String[] lines = source.split("\n");
        int begun = 0;
        for (int i = 0; i < lines.length; i++) {
            boolean isHead = lines[i].matches(" {4}( {4})?\\S[^=;]*\\([^;]*\\) \\{")
                    && !lines[i].matches(" *(if|for|while|switch|\\}).*");
            if (isHead) {
                begun = i;
                String indent = lines[i].substring(0, lines[i].length() - lines[i].stripLeading().length());
                int end = Arrays.asList(lines).subList(i, lines.length).indexOf(indent + "}");
                Checks.isTrue("a method of over 60 lines: " + lines[i].trim(), end > 0 && end <= 60);
            }
        }
        Checks.isTrue("methods are found", begun > 0);
    }
}
