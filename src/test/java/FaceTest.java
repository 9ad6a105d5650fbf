import java.lang.reflect.Constructor;
import java.lang.reflect.Field;
import java.lang.reflect.Method;
import java.lang.reflect.Modifier;
import java.util.TreeSet;

/** The class shows the document's face, and nothing beside it. */
public final class FaceTest {
    private static final String[] FACE = {
        "public int SortLineEvents.belt(int,double)",
        "public int SortLineEvents.head(int,double,double)",
        "public int SortLineEvents.bunker(double)",
        "public boolean SortLineEvents.joinTo(int,int)",
        "public boolean SortLineEvents.rule(int,double,int)",
        "public int SortLineEvents.picker(int,double,double)",
        "public int SortLineEvents.robot(int,double,double)",
        "public boolean SortLineEvents.feed(int,int,int,double)",
        "public int SortLineEvents.run(int)",
        "public int SortLineEvents.event(int,int)",
        "public long SortLineEvents.out(int,int)",
        "public long SortLineEvents.inside()",
        "public int SortLineEvents.jam(int,int)",
        "public long SortLineEvents.lost(int)",
        "public double SortLineEvents.interval(int,int,int)",
        "public boolean SortLineEvents.same()",
        "public int SortLineEvents.pieceKind(long)",
        "public SortLineEvents(long)",
        "public static final int SortLineEvents.NONE",
    };

    public static void main(String[] args) {
        Due due = new Due();
        TreeSet<String> want = new TreeSet<>();
        for (String member : FACE) {
            want.add(member);
        }
        TreeSet<String> got = new TreeSet<>();
        for (Method method : SortLineEvents.class.getDeclaredMethods()) {
            if (!Modifier.isPrivate(method.getModifiers())) {
                got.add(method.toString());
            }
        }
        for (Constructor<?> constructor : SortLineEvents.class.getDeclaredConstructors()) {
            if (!Modifier.isPrivate(constructor.getModifiers())) {
                got.add(constructor.toString());
            }
        }
        for (Field field : SortLineEvents.class.getDeclaredFields()) {
            if (!Modifier.isPrivate(field.getModifiers())) {
                got.add(field.toString());
            }
        }
        due.is("the face", got.toString(), want.toString());
        due.is("the class is final", Modifier.isFinal(SortLineEvents.class.getModifiers()), true);
        due.is("NONE", SortLineEvents.NONE, -1);
        due.end();
    }
}
