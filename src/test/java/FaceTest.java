import java.io.IOException;
import java.lang.reflect.Constructor;
import java.lang.reflect.Field;
import java.lang.reflect.Method;
import java.lang.reflect.Modifier;
import java.nio.file.Files;
import java.nio.file.Path;
import java.util.List;
import java.util.Set;
import java.util.TreeSet;
import java.util.regex.Matcher;
import java.util.regex.Pattern;

/** The class's face against the document's, and the rules of LANGUAGE.md that a text shows. */
public final class FaceTest {
    private static final Path SOURCE = Path.of("src/main/java/Noblesign.java");
    private static final Path DOCUMENT = Path.of(System.getProperty("shared", "../shared"), "DOC.md");

    private static final List<String> NOT_IN_THE_SOURCE = List.of("->", "::", "Exact(", "finally", "synchronized",
            "assert ", "catch", "static {", "Math.sqrt", "System.out", "toString", "hashCode", "instanceof",
            "java.io", "java.nio", "nanoTime", "currentTimeMillis", "Random", "Thread", "@Override");

    private final Runs runs = new Runs();

    public static void main(String[] args) throws IOException {
        FaceTest test = new FaceTest();
        test.face();
        test.members();
        test.source();
        test.runs.end();
    }

    private void face() throws IOException {
        String document = Files.readString(DOCUMENT);
        int begin = document.indexOf("```java");
        String face = document.substring(begin, document.indexOf("```", begin + 3));
        Matcher signs = Pattern.compile("public (\\w+) (\\w+)\\(([^)]*)\\)(?: throws ([^;]*))?;").matcher(face);
        Set<String> due = new TreeSet<>();
        while (signs.find()) {
            String types = signs.group(3).replaceAll("(\\w+) \\w+", "$1").replace(" ", "");
            String thrown = signs.group(4) == null ? "" : signs.group(4).replace(" ", "");
            due.add(signs.group(1) + " " + signs.group(2) + "(" + types + ") " + thrown);
        }
        Set<String> found = new TreeSet<>();
        for (Method method : Noblesign.class.getDeclaredMethods()) {
            if (Modifier.isPublic(method.getModifiers())) {
                found.add(method.getReturnType().getSimpleName() + " " + method.getName() + "("
                        + names(method.getParameterTypes()) + ") " + names(method.getExceptionTypes()));
            }
        }
        runs.due("how many methods the face has", String.valueOf(found.size()), "46");
        runs.due("the face", found.toString(), due.toString());
    }

    private static String names(Class<?>[] types) {
        StringBuilder names = new StringBuilder();
        for (Class<?> type : types) {
            names.append(names.length() > 0 ? "," : "").append(type.getSimpleName());
        }
        return names.toString();
    }

    private void members() {
        Class<?> sign = Noblesign.class;
        runs.due("the class is public and final", Modifier.toString(sign.getModifiers()), "public final");
        Constructor<?>[] constructors = sign.getDeclaredConstructors();
        runs.due("one constructor", String.valueOf(constructors.length), "1");
        runs.due("without parameters", String.valueOf(constructors[0].getParameterCount()), "0");
        runs.due("public", Modifier.toString(constructors[0].getModifiers()), "public");
        runs.due("no constructor throws", names(constructors[0].getExceptionTypes()), "");
        Set<String> face = new TreeSet<>();
        for (Method method : sign.getDeclaredMethods()) {
            if (Modifier.isPublic(method.getModifiers())) {
                face.add(method.getName());
            } else {
                runs.due("private: " + method, String.valueOf(Modifier.isPrivate(method.getModifiers())), "true");
            }
        }
        for (Method method : sign.getDeclaredMethods()) {
            boolean isFree = Modifier.isPublic(method.getModifiers()) || !face.contains(method.getName());
            runs.due("its name is no name of the face: " + method, String.valueOf(isFree), "true");
        }
        fields(sign);
        for (Class<?> inside : sign.getDeclaredClasses()) {
            runs.due("private: " + inside, String.valueOf(Modifier.isPrivate(inside.getModifiers())), "true");
            runs.due("static: " + inside, String.valueOf(Modifier.isStatic(inside.getModifiers())), "true");
            for (Method method : inside.getDeclaredMethods()) {
                runs.due("no name of the face: " + method, String.valueOf(face.contains(method.getName())), "false");
            }
            fields(inside);
        }
    }

    private void fields(Class<?> type) {
        int own = 0;
        for (Field field : type.getDeclaredFields()) {
            if (Modifier.isStatic(field.getModifiers())) {
                runs.due("final: " + field, String.valueOf(Modifier.isFinal(field.getModifiers())), "true");
            } else {
                own++;
            }
            if (type == Noblesign.class) {
                runs.due("private: " + field, String.valueOf(Modifier.isPrivate(field.getModifiers())), "true");
            }
        }
        runs.due("some twenty fields at most: " + type, String.valueOf(own <= 20), "true");
    }

    private void source() throws IOException {
        String source = Files.readString(SOURCE);
        for (String word : NOT_IN_THE_SOURCE) {
            runs.due("the source is without " + word, String.valueOf(source.contains(word)), "false");
        }
        Matcher imports = Pattern.compile("(?m)^import (.*);$").matcher(source);
        while (imports.find()) {
            boolean isFree = Set.of("java.util.ArrayList", "java.util.NoSuchElementException").contains(imports.group(1));
            runs.due("import " + imports.group(1), String.valueOf(isFree), "true");
        }
        boolean isPlain = source.chars().allMatch(sign -> sign == '\n' || sign >= 32 && sign < 127);
        runs.due("plain signs alone", String.valueOf(isPlain), "true");
    }
}
