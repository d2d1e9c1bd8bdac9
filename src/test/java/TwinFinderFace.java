import java.lang.management.ManagementFactory;
import java.lang.reflect.Constructor;
import java.lang.reflect.Field;
import java.lang.reflect.Method;
import java.lang.reflect.Modifier;
import java.util.ArrayList;
import java.util.Arrays;
import java.util.List;
import java.util.TreeSet;

/** The public face is the document's, and a run of many dear calls takes little room. */
public final class TwinFinderFace {
    // Far below the room's 7.3 million fields and elements, even if each had but one byte.
    private static final long MOST_BYTES = 1_000_000;
    private static int wrong = 0;

    public static void main(String[] args) {
        face();
        onlyFaceIsSeen();
        room();
        System.out.println(wrong == 0 ? "the face and the room are as due" : wrong + " wrong");
        if (wrong != 0) {
            System.exit(1);
        }
    }

    private static void face() {
        String[] want = {
            "int feed(int,int,int,int,int)", "boolean end(int)", "int add()", "boolean remove(int)",
            "int mode(int,int) throws java.lang.IllegalArgumentException", "boolean tell(int,int,int)",
            "int exchange(int,int,int)", "int image(int,int)", "boolean bands(int,int)", "boolean threshold(int,int)",
            "int document(int,int) throws java.util.NoSuchElementException",
            "int shingle(int,int) throws java.util.NoSuchElementException", "int letter(int,int)",
            "int signature(int,int) throws java.util.NoSuchElementException",
            "int both(int,int,int) throws java.util.NoSuchElementException", "int pairs(int)", "int pair(int,int,int)",
            "int nearest(int,int) throws java.util.NoSuchElementException", "int count(int)"};
        TreeSet<String> got = new TreeSet<>();
        for (Method m : TwinFinder.class.getDeclaredMethods()) {
            if (!Modifier.isPrivate(m.getModifiers())) {
                got.add(m.toGenericString().replace("public ", "").replace("TwinFinder.", ""));
            }
        }
        due("methods", got.toString(), new TreeSet<>(List.of(want)).toString());
        due("class", Modifier.toString(TwinFinder.class.getModifiers()), "public final");
        due("constructors", Arrays.toString(TwinFinder.class.getDeclaredConstructors()), "[public TwinFinder()]");
    }

    private static void onlyFaceIsSeen() {
        List<String> seen = new ArrayList<>();
        for (Field f : TwinFinder.class.getDeclaredFields()) {
            if (!Modifier.isPrivate(f.getModifiers())) {
                seen.add(f.toString());
            }
            if (Modifier.isStatic(f.getModifiers()) && !Modifier.isFinal(f.getModifiers())) {
                seen.add("changing " + f);
            }
        }
        due("fields", seen.toString(), "[public static final int TwinFinder.NONE]");
        TreeSet<String> face = new TreeSet<>();
        for (Method m : TwinFinder.class.getMethods()) {
            face.add(m.getName());
        }
        for (Class<?> inside : TwinFinder.class.getDeclaredClasses()) {
            due("static " + inside, String.valueOf(Modifier.isStatic(inside.getModifiers())), "true");
            for (Method m : inside.getDeclaredMethods()) {
                due("its own name " + m, String.valueOf(face.contains(m.getName())), "false");
            }
            for (Constructor<?> c : inside.getDeclaredConstructors()) {
                due("not public " + c, String.valueOf(Modifier.isPublic(c.getModifiers())), "false");
            }
        }
    }

    private static void room() {
        var thread = (com.sun.management.ThreadMXBean) ManagementFactory.getThreadMXBean();
        long own = Thread.currentThread().getId();
        for (int kind = 0; kind < 2; kind++) {
            dearRun(kind);
            long before = thread.getThreadAllocatedBytes(own);
            dearRun(kind);
            long taken = thread.getThreadAllocatedBytes(own) - before;
            System.out.println("a dear run takes " + taken + " bytes");
            due("room", String.valueOf(taken < MOST_BYTES), "true");
        }
    }

    private static void dearRun(int kind) {
        if (kind == 0) {
            manyQuestions();
        } else {
            manyModes();
        }
    }

    private static void manyModes() {
        TwinFinder x = new TwinFinder();
        for (int i = 0; i < 10; i++) {
            for (int d = 0; d < 48; d++) {
                x.add();
            }
            x.mode(0, 4);
        }
    }

    private static void manyQuestions() {
        TwinFinder x = new TwinFinder();
        for (int i = 0; i < 48; i++) {
            x.feed(0x61626364, 0x65666768 + i, 0x696A6B6C, 0x6D6E6F70, 0x71727374);
            x.add();
        }
        for (int i = 0; i < 104; i++) {
            x.exchange(i % 64, i, 2 * i);
            x.pair(1, i, 1);
            x.nearest(i % 48, i % 47);
            x.pairs(2);
        }
    }

    private static void due(String name, String got, String want) {
        if (!got.equals(want)) {
            wrong++;
            System.out.println(name + ": " + got + ", due is " + want);
        }
    }
}
