import java.lang.reflect.Constructor;
import java.lang.reflect.Field;
import java.lang.reflect.Member;
import java.lang.reflect.Method;
import java.lang.reflect.Modifier;
import java.util.Set;
import java.util.TreeSet;

// The public face is the document's, and nothing else can be seen from outside.
public final class LadderGridFace {
    private static int wrong = 0;

    private static void due(String what, Object got, Object want) {
        if (!got.equals(want)) {
            wrong++;
            System.out.println(what + ": " + got + ", due is " + want);
        }
    }

    private static boolean isHidden(Member member) {
        return Modifier.isPrivate(member.getModifiers()) || member.isSynthetic();
    }

    private static Set<String> visibleMembers() {
        Set<String> seen = new TreeSet<>();
        for (Constructor<?> c : LadderGrid.class.getDeclaredConstructors()) {
            if (!isHidden(c)) {
                seen.add(c.toString());
            }
        }
        for (Field f : LadderGrid.class.getDeclaredFields()) {
            if (!isHidden(f)) {
                seen.add(f.toString());
            }
        }
        for (Method m : LadderGrid.class.getDeclaredMethods()) {
            if (!isHidden(m)) {
                seen.add(m.toString());
            }
        }
        return seen;
    }

    private static void privateNamesDiffer() {
        Set<String> face = Set.of("begin", "cell", "link", "set", "get", "scan", "power", "steps", "groups");
        for (Method m : LadderGrid.class.getDeclaredMethods()) {
            if (isHidden(m)) {
                due("a private method bears the public name " + m.getName(), face.contains(m.getName()), false);
            }
        }
    }

    private static void staticFieldsAreFinal() {
        for (Field f : LadderGrid.class.getDeclaredFields()) {
            if (Modifier.isStatic(f.getModifiers())) {
                due("final is " + f.getName(), Modifier.isFinal(f.getModifiers()), true);
            }
        }
    }

    public static void main(String[] args) {
        Set<String> face = new TreeSet<>(Set.of(
                "public static final int LadderGrid.BAD",
                "public LadderGrid()",
                "public int LadderGrid.begin(int,int)",
                "public int LadderGrid.cell(int,int,int,int)",
                "public int LadderGrid.link(int,int,boolean)",
                "public int LadderGrid.set(int,int)",
                "public int LadderGrid.get(int)",
                "public int LadderGrid.scan()",
                "public int LadderGrid.power(int,int)",
                "public int LadderGrid.steps()",
                "public int LadderGrid.groups(int)"));
        due("the visible members", visibleMembers(), face);
        due("the class's modifiers", Modifier.toString(LadderGrid.class.getModifiers()), "public final");
        due("BAD", LadderGrid.BAD, -1);
        privateNamesDiffer();
        staticFieldsAreFinal();
        System.out.println(wrong == 0 ? "the face is as due" : wrong + " things are not as due");
        if (wrong != 0) {
            System.exit(1);
        }
    }
}
