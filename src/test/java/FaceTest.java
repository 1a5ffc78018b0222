import java.lang.reflect.Constructor;
import java.lang.reflect.Field;
import java.lang.reflect.Method;
import java.lang.reflect.Modifier;
import java.util.Set;
import java.util.TreeSet;

/** The public face, and that nothing else can be seen. */
public final class FaceTest {
    private static final Set<String> FACE = Set.of(
        "public static final int StratumCounts.NONE",
        "public StratumCounts(long)",
        "public int StratumCounts.stratum(int)",
        "public boolean StratumCounts.cost(int,long)",
        "public int StratumCounts.bag(int)",
        "public boolean StratumCounts.weight(int,int,long)",
        "public boolean StratumCounts.year(int,int)",
        "public boolean StratumCounts.missing(int)",
        "public int StratumCounts.draw(int,int)",
        "public int StratumCounts.drawn(int,int)",
        "public long StratumCounts.mean(int,int)",
        "public long StratumCounts.spread(int,int)",
        "public long StratumCounts.plan(int,long,long)",
        "public int StratumCounts.planned(int)",
        "public long StratumCounts.compared(int,int)",
        "public boolean StratumCounts.joined(int,int)",
        "public int StratumCounts.repeat(int,int,long)",
        "public long StratumCounts.error(int,int)",
        "public int StratumCounts.counting()");

    public static void main(String[] args) {
        Expect e = new Expect("FaceTest");
        e.same("NONE", StratumCounts.NONE, -1);
        int modifiers = StratumCounts.class.getModifiers();
        e.yes("the class is public and final", Modifier.isPublic(modifiers) && Modifier.isFinal(modifiers));

        Set<String> visible = new TreeSet<>();
        Set<String> hiddenNames = new TreeSet<>();
        for (Field f : StratumCounts.class.getDeclaredFields()) {
            if (!Modifier.isPrivate(f.getModifiers())) {
                visible.add(f.toString());
            }
        }
        for (Constructor<?> c : StratumCounts.class.getDeclaredConstructors()) {
            if (!Modifier.isPrivate(c.getModifiers())) {
                visible.add(c.toString());
            }
        }
        for (Method m : StratumCounts.class.getDeclaredMethods()) {
            if (Modifier.isPrivate(m.getModifiers())) {
                hiddenNames.add(m.getName());
            } else {
                visible.add(m.toString());
            }
        }
        for (String member : FACE) {
            e.yes("is there: " + member, visible.contains(member));
        }
        for (String member : visible) {
            e.yes("is of the face: " + member, FACE.contains(member));
        }
        for (Class<?> inside : StratumCounts.class.getDeclaredClasses()) {
            int m = inside.getModifiers();
            e.yes("is static: " + inside, Modifier.isStatic(m));
            e.no("is public or protected: " + inside, Modifier.isPublic(m) || Modifier.isProtected(m));
            for (Method method : inside.getDeclaredMethods()) {
                hiddenNames.add(method.getName());
            }
        }
        for (String member : FACE) {
            for (String name : hiddenNames) {
                e.no("bears a name of the face: " + name, member.contains("." + name + "("));
            }
        }
        e.end();
    }
}
