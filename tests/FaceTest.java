import java.io.IOException;
import java.lang.reflect.Constructor;
import java.lang.reflect.Field;
import java.lang.reflect.Method;
import java.lang.reflect.Modifier;
import java.nio.file.Files;
import java.nio.file.Path;
import java.util.ArrayList;
import java.util.Arrays;
import java.util.Collections;
import java.util.HashSet;
import java.util.List;
import java.util.Set;
import java.util.regex.Matcher;
import java.util.regex.Pattern;

/** The face of the class is that of the document, and its text keeps to some of the rules of its language. */
public final class FaceTest {
    public static void main(String[] args) throws IOException {
        String document = Files.readString(Path.of("../shared/DOC.md"));
        String program = Files.readString(Path.of("src/main/java/Residuary.java"));
        face(document);
        nested();
        text(program);
        groups(document, program);
        Check.end("FaceTest");
    }

    private static String plain(Class<?> type) {
        return type.getSimpleName();
    }

    private static void face(String document) {
        List<String> due = new ArrayList<>();
        String block = document.substring(document.indexOf("```java") + 7, document.indexOf("```", document.indexOf("```java") + 7));
        Matcher lines = Pattern.compile("public (\\w+) (\\w+)\\(([^)]*)\\)( throws [\\w, ]+)?;").matcher(block);
        while (lines.find()) {
            StringBuilder types = new StringBuilder();
            for (String parameter : lines.group(3).split(",")) {
                types.append(parameter.trim().split(" ")[0]).append(' ');
            }
            String thrown = lines.group(4) == null ? "" : lines.group(4).replace(" throws ", "");
            due.add(lines.group(1) + " " + lines.group(2) + "(" + types.toString().trim() + ") " + thrown);
        }
        List<String> got = new ArrayList<>();
        Set<String> publicNames = new HashSet<>();
        for (Method method : Residuary.class.getDeclaredMethods()) {
            if (!Modifier.isPrivate(method.getModifiers())) {
                Check.isTrue(method.getName() + " is public", Modifier.isPublic(method.getModifiers()));
                publicNames.add(method.getName());
                StringBuilder types = new StringBuilder();
                for (Class<?> type : method.getParameterTypes()) {
                    types.append(plain(type)).append(' ');
                }
                List<String> thrown = new ArrayList<>();
                for (Class<?> type : method.getExceptionTypes()) {
                    thrown.add(plain(type));
                }
                got.add(plain(method.getReturnType()) + " " + method.getName() + "(" + types.toString().trim() + ") "
                        + String.join(", ", thrown));
            }
        }
        Collections.sort(due);
        Collections.sort(got);
        Check.same("the methods", got, due);
        Check.same("how many", got.size(), 53);
        for (Class<?> owner : all()) {
            for (Method method : owner.getDeclaredMethods()) {
                boolean isFace = owner == Residuary.class && Modifier.isPublic(method.getModifiers());
                Check.isTrue("no other method " + method.getName(), isFace || !publicNames.contains(method.getName()));
                Check.isTrue("parameters of " + method.getName(), method.getParameterCount() <= 7);
            }
        }
        for (Field field : Residuary.class.getDeclaredFields()) {
            Check.isTrue(field.getName() + " is private", Modifier.isPrivate(field.getModifiers()));
        }
        Constructor<?>[] constructors = Residuary.class.getDeclaredConstructors();
        Check.same("constructors", constructors.length, 1);
        Check.isTrue("the constructor is public", Modifier.isPublic(constructors[0].getModifiers()));
        Check.isTrue("final", Modifier.isFinal(Residuary.class.getModifiers()));
    }

    private static List<Class<?>> all() {
        List<Class<?>> result = new ArrayList<>();
        result.add(Residuary.class);
        result.addAll(Arrays.asList(Residuary.class.getDeclaredClasses()));
        return result;
    }

    private static void nested() {
        Check.isTrue("some twelve classes", all().size() <= 12);
        for (Class<?> owner : all()) {
            int fields = 0;
            for (Field field : owner.getDeclaredFields()) {
                boolean isStatic = Modifier.isStatic(field.getModifiers());
                Check.isTrue(field.getName() + " is no other static state", !isStatic || Modifier.isFinal(field.getModifiers()));
                fields += isStatic ? 0 : 1;
            }
            Check.isTrue("some twenty fields of " + owner.getName(), fields <= 20);
            boolean isInside = owner != Residuary.class;
            Check.isTrue(owner.getName() + " inside is private and static", !isInside
                    || (Modifier.isPrivate(owner.getModifiers()) && Modifier.isStatic(owner.getModifiers())));
        }
    }

    /** Ways of writing that the language leaves out, looked for outside comments and texts. */
    private static void text(String program) {
        String code = program.replaceAll("(?s)/\\*.*?\\*/", "").replaceAll("//[^\n]*", "").replaceAll("\"[^\"\n]*\"", "\"\"");
        String[] barred = {"->", "::", "\\bstatic \\{", "\\bfinally\\b", "\\btry\\b", "\\bcatch\\b", "\\bsynchronized\\b",
            "\\bassert\\b", "\\bequals\\(", "\\bhashCode\\b", "\\bprintln\\b", "\\bextends\\b", "\\bdouble\\[", "\\bMath\\.\\w+Exact\\b",
            "\\bimport (?!java\\.util\\.NoSuchElementException;)", "\\bpackage\\b", "\\bprotected\\b", "\\bwhile \\(true\\)"};
        for (String pattern : barred) {
            Check.isFalse("the text has " + pattern, Pattern.compile(pattern).matcher(code).find());
        }
        int inMethod = 0;
        for (String line : code.split("\n")) {
            inMethod = line.matches(" {4}(}|.*\\{)| {8}}| {8}[^ ].*\\{") ? 0 : inMethod + 1;
            Check.isTrue("a method of some sixty lines", inMethod <= 60);
        }
        for (int i = 0; i < program.length(); i++) {
            if (program.charAt(i) > 126) {
                Check.same("a sign beyond 126 at " + i, (int) program.charAt(i), 0);
            }
        }
    }

    /** The calls stand in the groups that the document names. */
    private static void groups(String document, String program) {
        Matcher lines = Pattern.compile("Ahead of the calls (.*?) the interface says: (---- .*?)\\.\n").matcher(document);
        int found = 0;
        while (lines.find()) {
            found++;
            int at = program.indexOf("// " + lines.group(2));
            Check.isTrue("the group " + lines.group(2), at > 0);
            for (String name : lines.group(1).replace("`", "").split(", ")) {
                int next = program.indexOf(" " + name + "(", at);
                Check.isTrue(name + " in its place", next > at);
                at = next;
            }
        }
        Check.same("groups", found, 6);
    }
}
