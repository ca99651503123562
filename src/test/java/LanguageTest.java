import java.io.IOException;
import java.lang.reflect.Constructor;
import java.lang.reflect.Field;
import java.lang.reflect.Method;
import java.lang.reflect.Modifier;
import java.nio.file.Files;
import java.nio.file.Path;
import java.util.HashSet;
import java.util.List;
import java.util.Set;

/** What of LANGUAGE.md can be seen by reflection or in the lines: rules 1, 2, 4 to 6, 11, and the room of 12. */
public final class LanguageTest {
    private static final Check CHECK = new Check("LanguageTest");
    private static final String FACE = "int feed(int,int,int,int,int);boolean end(int);int fault(int);int text(int);int rule(int);"
        + "int thing(int,int);int ring(int,int);boolean law(int);boolean knives(int);int month();int seal(int,int);int open(int);"
        + "int pry(int,int);int carry(int,int);int heat(int);int years(int,long);int undo();int log(int,int);int step(int,int,int);"
        + "int run(int,int);int perform(int);int warmth(int);int lasts(int);int least(int,int,int);int pack(int,int);int order(int);"
        + "int dealt(int,int);int noted(int,int,boolean);int who(int);int ask();int game(int,int,int,int,int,int);"
        + "int rests(int,int,int,int);int odds(int,int,int);int all(int);int known(int);int spare(int);int openers(int);"
        + "int tells(int);int harden(int,int);int image();int back();int count(int);";
    private static final String[] NOT_THERE = {"->", "::", "catch", "finally", "synchronized", "assert ", "java.lang", "Exact",
        "new Thread", "currentTimeMillis", "nanoTime", "Random", "hashCode", "toString", "protected", "static {", "getMessage"};

    public static void main(String[] args) throws IOException {
        face();
        inside();
        lines(Files.readAllLines(Path.of("src/main/java/WaxReign.java")));
        room();
        CHECK.ends();
    }

    private static void face() {
        Set<String> due = new HashSet<>(List.of(FACE.split(";")));
        Set<String> names = new HashSet<>();
        int found = 0;
        for (Method method : WaxReign.class.getDeclaredMethods()) {
            if (Modifier.isPrivate(method.getModifiers())) {
                continue;
            }
            StringBuilder text = new StringBuilder(method.getReturnType() + " " + method.getName() + "(");
            for (Class<?> type : method.getParameterTypes()) {
                text.append(text.charAt(text.length() - 1) == '(' ? "" : ",").append(type);
            }
            CHECK.isTrue(text + ") is of the face", due.contains(text + ")") && Modifier.isPublic(method.getModifiers()));
            names.add(method.getName());
            found++;
        }
        CHECK.same("all of the face", found, due.size());
        for (Class<?> inside : WaxReign.class.getDeclaredClasses()) {
            privateNames(inside, names);
        }
        privateNames(WaxReign.class, names);
        for (Constructor<?> constructor : WaxReign.class.getDeclaredConstructors()) {
            CHECK.isTrue("the one constructor", Modifier.isPublic(constructor.getModifiers()) && constructor.getParameterCount() == 0);
        }
        CHECK.isTrue("public and final", Modifier.isPublic(WaxReign.class.getModifiers()) && Modifier.isFinal(WaxReign.class.getModifiers()));
    }

    private static void privateNames(Class<?> of, Set<String> names) {
        for (Method method : of.getDeclaredMethods()) {
            boolean hidden = Modifier.isPrivate(method.getModifiers());
            CHECK.isFalse(of + " " + method.getName() + " bears a public name", hidden && names.contains(method.getName()));
            CHECK.isTrue("seven parameters at most", method.getParameterCount() <= 7);
        }
    }

    private static void inside() {
        CHECK.isTrue("some twelve classes", WaxReign.class.getDeclaredClasses().length <= 12);
        fields(WaxReign.class);
        for (Class<?> inside : WaxReign.class.getDeclaredClasses()) {
            CHECK.isTrue(inside + " is static", Modifier.isStatic(inside.getModifiers()));
            fields(inside);
        }
    }

    private static void fields(Class<?> of) {
        int own = 0;
        for (Field field : of.getDeclaredFields()) {
            boolean fixed = Modifier.isStatic(field.getModifiers());
            CHECK.isTrue(field + " is final", !fixed || Modifier.isFinal(field.getModifiers()));
            own += fixed ? 0 : 1;
        }
        CHECK.isTrue("some twenty fields of " + of, own <= 20);
    }

    private static void lines(List<String> lines) {
        int began = 0;
        String indent = "";
        for (int i = 0; i < lines.size(); i++) {
            String line = lines.get(i);
            String code = line.strip().startsWith("*") || line.strip().startsWith("/") ? "" : line;
            for (String sign : NOT_THERE) {
                CHECK.isFalse("line " + (i + 1) + " has " + sign, code.contains(sign));
            }
            if (code.matches("( {4}| {8})[a-zA-Z].*\\) (throws \\w+ )?\\{")) {
                began = i;
                indent = line.substring(0, line.length() - line.stripLeading().length());
            }
            if (code.equals(indent + "}")) {
                CHECK.isTrue("the method at line " + (began + 1) + " is short", i - began <= 60);
                indent = "none";
            }
        }
    }

    /** Texts alone make objects behind the constructor. */
    private static void room() {
        com.sun.management.ThreadMXBean threads =
            (com.sun.management.ThreadMXBean) java.lang.management.ManagementFactory.getThreadMXBean();
        long thread = Thread.currentThread().getId();
        WaxReign x = dear();
        for (int round = 0; round < 2; round++) {
            dearCalls(x);
        }
        long before = threads.getThreadAllocatedBytes(thread);
        dearCalls(x);
        long calls = threads.getThreadAllocatedBytes(thread) - before;
        CHECK.isTrue("calls make nothing: " + calls, calls < 5000);
        before = threads.getThreadAllocatedBytes(thread);
        new WaxReign();
        long made = threads.getThreadAllocatedBytes(thread) - before;
        CHECK.isTrue("an object is small: " + made, made < 30000);
    }

    private static WaxReign dear() {
        WaxReign x = Check.kingdomUnder("y:h<w?1;y:[h+w]*2-s+m*d/k", "t;t;ts1;ts3;ts4;td9;td8w3;r;r;r;r;r");
        Check.put(x, 2, "m;m;s01;m");
        return x;
    }

    private static void dearCalls(WaxReign x) {
        for (int i = 0; i < 10; i++) {
            x.dealt(24, 0);
            x.pack(24, 0);
            x.least(127, 24, -1);
            x.order(0);
            x.harden(0, 24);
            x.who(-1);
            x.ask();
            x.run(0, 0);
            x.image();
            x.years(60, i);
            x.back();
            x.undo();
            x.fault(1);
        }
    }
}
