import java.io.IOException;
import java.lang.reflect.Constructor;
import java.lang.reflect.Field;
import java.lang.reflect.Member;
import java.lang.reflect.Method;
import java.lang.reflect.Modifier;
import java.nio.file.DirectoryStream;
import java.nio.file.Files;
import java.nio.file.Path;
import java.util.Arrays;
import java.util.Set;
import java.util.TreeSet;
import java.util.regex.Matcher;
import java.util.regex.Pattern;

/** The public face of the document, and that README.md tells of all of it. */
public final class LifeboatHouseFace {
    private static int wrong = 0;

    private static final String FACE = "station(int,int,int) person(int,int,int) papers(int,int) page(int,boolean)"
        + " partOf(int,int) set(int,int) chance(int,int) weak(int,int) tide(int,int) slip(int,int) minutes(int)"
        + " boat(int,int) speed(int,int,int) move(int,int) call(int,int,int) reach(int,int,int) first(int)"
        + " two(int,int,int) send(int,int,int,boolean) log(int,int) covered(int) flanks(int) flank(int)"
        + " box(int,int) look(int,int) looks(int,int) lookAt(int,int,int) rest(int,int) turn(int,int)"
        + " personOf(int,int) count(int)";

    private static void need(boolean holds, String what) {
        if (!holds) {
            wrong++;
            System.out.println("broken: " + what);
        }
    }

    private static String head(Method m) {
        StringBuilder s = new StringBuilder(m.getName()).append('(');
        Class<?>[] types = m.getParameterTypes();
        for (int i = 0; i < types.length; i++) {
            s.append(i == 0 ? "" : ",").append(types[i].getSimpleName());
        }
        return s.append(')').toString();
    }

    private static boolean isPrivate(Member m) {
        return Modifier.isPrivate(m.getModifiers()) || m.isSynthetic();
    }

    private static void face() {
        Class<?> c = LifeboatHouse.class;
        need(Modifier.isPublic(c.getModifiers()) && Modifier.isFinal(c.getModifiers()), "public final class");
        Set<String> due = new TreeSet<>(Arrays.asList(FACE.split(" ")));
        Set<String> got = new TreeSet<>();
        Set<String> names = new TreeSet<>();
        for (Method m : c.getDeclaredMethods()) {
            if (isPrivate(m)) continue;
            need(Modifier.isPublic(m.getModifiers()), "only public or private: " + m);
            need(m.getReturnType() == int.class, "answers an int: " + m);
            got.add(head(m));
            names.add(m.getName());
        }
        need(got.equals(due), "the methods are " + got + ", due are " + due);
        for (Method m : c.getDeclaredMethods()) {
            need(!Modifier.isPrivate(m.getModifiers()) || !names.contains(m.getName()), "a private " + m.getName());
        }
        Constructor<?>[] made = c.getDeclaredConstructors();
        need(made.length == 1 && made[0].getParameterCount() == 0 && Modifier.isPublic(made[0].getModifiers()),
            "one public constructor");
        for (Field f : c.getDeclaredFields()) {
            need(isPrivate(f), "a field that is not private: " + f);
        }
    }

    private static void classesInside() {
        for (Class<?> c : LifeboatHouse.class.getDeclaredClasses()) {
            need(Modifier.isStatic(c.getModifiers()), "static: " + c);
            need(!Modifier.isPublic(c.getModifiers()) && !Modifier.isProtected(c.getModifiers()), "not public: " + c);
            for (Field f : c.getDeclaredFields()) {
                need(!Modifier.isStatic(f.getModifiers()) || Modifier.isFinal(f.getModifiers()), "final: " + f);
            }
        }
    }

    /** README.md names each call of the class and each test of the project, and no test that is not there. */
    private static void readme() throws IOException {
        String text = Files.readString(Path.of("README.md"));
        for (String call : FACE.split(" ")) {
            String start = call.substring(0, call.indexOf('(') + 1);
            need(Pattern.compile("\\b" + Pattern.quote(start)).matcher(text).find(), "README.md does not name " + call);
        }
        Set<String> told = new TreeSet<>();
        Matcher names = Pattern.compile("src/test/java/(\\w+\\.java)").matcher(text);
        while (names.find()) told.add(names.group(1));
        Set<String> there = new TreeSet<>();
        try (DirectoryStream<Path> tests = Files.newDirectoryStream(Path.of("src/test/java"))) {
            for (Path test : tests) there.add(test.getFileName().toString());
        }
        need(told.equals(there), "README.md names the tests " + told + ", there are " + there);
    }

    public static void main(String[] args) throws IOException {
        face();
        classesInside();
        readme();
        System.out.println(wrong == 0 ? "the face is as due" : wrong + " faults");
        if (wrong != 0) System.exit(1);
    }
}
