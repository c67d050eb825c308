import java.lang.reflect.Array;
import java.lang.reflect.Constructor;
import java.lang.reflect.Field;
import java.lang.reflect.Member;
import java.lang.reflect.Method;
import java.lang.reflect.Modifier;
import java.util.Collections;
import java.util.IdentityHashMap;
import java.util.Set;
import java.util.TreeSet;

/** The document's face, no more and no less; how much room an object takes; that objects are apart. */
public final class FaceTest {
    private static final Check CHECK = new Check();

    public static void main(String[] args) throws IllegalAccessException {
        face();
        inside();
        room();
        twoObjects();
        CHECK.end();
    }

    private static void face() {
        Set<String> got = new TreeSet<>();
        CHECK.due("class", Modifier.toString(SlotForest.class.getModifiers()), "public final");
        for (Field f : SlotForest.class.getDeclaredFields()) {
            add(got, f, f.toString());
        }
        for (Constructor<?> c : SlotForest.class.getDeclaredConstructors()) {
            add(got, c, c.toString());
        }
        for (Method m : SlotForest.class.getDeclaredMethods()) {
            add(got, m, m.toString());
        }
        String bad = " throws java.lang.IllegalArgumentException";
        Set<String> want = new TreeSet<>();
        Collections.addAll(want,
                "public static final int SlotForest.NONE",
                "public SlotForest()",
                "public boolean SlotForest.type(long,int)",
                "public int SlotForest.grammar()" + bad,
                "public int SlotForest.fault(int)",
                "public int SlotForest.size(int)",
                "public int SlotForest.rule(int,int)",
                "public int SlotForest.set(int,int)",
                "public boolean SlotForest.parse() throws java.lang.IllegalStateException,"
                        + "java.lang.IllegalArgumentException",
                "public boolean SlotForest.reached(int,int,int)",
                "public int SlotForest.looked(int)",
                "public int SlotForest.count(int)",
                "public int SlotForest.packed(int,int,int)",
                "public long SlotForest.trees()",
                "public int SlotForest.least()",
                "public int SlotForest.step(int,int)");
        CHECK.due("face", got, want);
    }

    /** The classes inside are static, and none of their methods bears a name of the face. */
    private static void inside() {
        Set<String> taken = new TreeSet<>();
        for (Method m : SlotForest.class.getMethods()) {
            if (m.getDeclaringClass() == SlotForest.class) {
                taken.add(m.getName());
            }
        }
        for (Class<?> c : SlotForest.class.getDeclaredClasses()) {
            CHECK.due(c.getName() + " is static", Modifier.isStatic(c.getModifiers()), true);
            CHECK.due(c.getName() + " is public", Modifier.isPublic(c.getModifiers()), false);
            for (Method m : c.getDeclaredMethods()) {
                CHECK.due(m + " has a name of the face", taken.contains(m.getName()), false);
            }
        }
    }

    private static void add(Set<String> members, Member member, String text) {
        if (!Modifier.isPrivate(member.getModifiers()) && !member.isSynthetic()) {
            members.add(text);
        }
    }

    /** A run of several objects must fit into one room of 7.3 million fields and elements. */
    private static void room() throws IllegalAccessException {
        SlotForest x = Check.with("S=SSS|SS|a|;", "aaaaaaaaaaaaaa").object();
        x.trees();
        x.step(0, 0);
        x.count(7);
        long room = roomOf(x, Collections.newSetFromMap(new IdentityHashMap<>()));
        CHECK.due("an object's room of " + room + " is small", room < 120000, true);
    }

    private static long roomOf(Object o, Set<Object> seen) throws IllegalAccessException {
        if (o == null || !seen.add(o)) {
            return 0;
        }
        if (o.getClass().isArray()) {
            return Array.getLength(o);
        }
        long sum = 0;
        for (Class<?> c = o.getClass(); c != Object.class; c = c.getSuperclass()) {
            for (Field f : c.getDeclaredFields()) {
                if (!Modifier.isStatic(f.getModifiers())) {
                    f.setAccessible(true);
                    sum += 1 + (f.getType().isPrimitive() ? 0 : roomOf(f.get(o), seen));
                }
            }
        }
        return sum;
    }

    private static void twoObjects() {
        Subject a = Check.with("S=a*;", "aa");
        Subject b = Check.with("S=bS|;", "bbb");
        CHECK.due("one object", a.looked(0), 2);
        CHECK.due("another object", b.looked(0), 3);
        CHECK.due("the one's set", a.set(1, 0), Check.bits("a"));
        CHECK.due("the other's set", b.set(1, 0), Check.bits("b"));
        CHECK.due("the one's tree", a.least(), 4);
        CHECK.due("the other's tree", b.least(), 4);
    }
}
