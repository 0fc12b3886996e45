import java.lang.reflect.Array;
import java.lang.reflect.Constructor;
import java.lang.reflect.Field;
import java.lang.reflect.Member;
import java.lang.reflect.Method;
import java.lang.reflect.Modifier;
import java.util.Set;
import java.util.TreeSet;

/** The class has the document's face and no other, and an object takes little room. */
public final class WayTableFace {
    // 7.3 million elements for a run, shared by 512 calls: then even a run that makes an object
    // with each call has room.
    private static final int ROOM = 14_000;

    private static final Set<String> FACE = Set.of(
            "public static final int NONE",
            "public WayTable()",
            "public boolean begin(int,int)",
            "public boolean way(int,int,int,boolean)",
            "public int fill(int,int)",
            "public void turn()",
            "public boolean start(int)",
            "public int make()",
            "public void home()",
            "public int go(int)",
            "public int to(int,int)",
            "public int nodes(int)",
            "public int state(int)",
            "public int apart(int,int)",
            "public int apartBy(int,int,int)",
            "public boolean is(int,int,int)",
            "public int look(int)");

    private static int wrong = 0;

    private static void due(String what, Object got, Object want) {
        if (!got.equals(want)) {
            wrong++;
            System.out.println(what + " is " + got + ", due is " + want);
        }
    }

    private static void note(Set<String> seen, Member member, String text) {
        if (!Modifier.isPrivate(member.getModifiers()) && !member.isSynthetic()) {
            seen.add(text.replace("WayTable.", ""));
        }
    }

    private static Set<String> face() {
        Set<String> seen = new TreeSet<>();
        for (Field field : WayTable.class.getDeclaredFields()) {
            note(seen, field, field.toGenericString());
        }
        for (Constructor<?> maker : WayTable.class.getDeclaredConstructors()) {
            note(seen, maker, maker.toGenericString());
        }
        for (Method method : WayTable.class.getDeclaredMethods()) {
            note(seen, method, method.toGenericString());
        }
        return seen;
    }

    /** Fields and elements of an object and of all that it alone holds. */
    private static int room(Object held) throws IllegalAccessException {
        if (held.getClass().isArray()) {
            return Array.getLength(held);
        }
        int count = 0;
        for (Field field : held.getClass().getDeclaredFields()) {
            if (Modifier.isStatic(field.getModifiers())) {
                continue;
            }
            count++;
            field.setAccessible(true);
            if (!field.getType().isPrimitive()) {
                count += room(field.get(held));
            }
        }
        return count;
    }

    public static void main(String[] args) throws IllegalAccessException {
        due("the face", face(), new TreeSet<>(FACE));
        due("final", Modifier.isFinal(WayTable.class.getModifiers()), true);
        due("public", Modifier.isPublic(WayTable.class.getModifiers()), true);
        WayTable x = new WayTable();
        due("room of " + room(x) + " below " + ROOM, room(x) <= ROOM, true);
        System.out.println(wrong == 0 ? "the face is as due" : wrong + " things are not as due");
        if (wrong != 0) {
            System.exit(1);
        }
    }
}
