import java.lang.reflect.Constructor;
import java.lang.reflect.Field;
import java.lang.reflect.Member;
import java.lang.reflect.Method;
import java.lang.reflect.Modifier;
import java.util.TreeSet;

/** The face is that of the document, and nothing else of the class can be seen from outside. */
public final class FaceTest {
    private static final String FACE = """
        public static final int WeighedMachines.FULL
        public static final int WeighedMachines.NONE
        public static final int WeighedMachines.RANGE
        public static final int WeighedMachines.SYNTAX
        public static final int WeighedMachines.TWICE
        public static final int WeighedMachines.UNFIT
        public WeighedMachines()
        public boolean WeighedMachines.end(int,int,int)
        public boolean WeighedMachines.fresh(int,int)
        public boolean WeighedMachines.start(int,int,int)
        public int WeighedMachines.arc(int,int,int,int,int)
        public int WeighedMachines.bare(int,int)
        public int WeighedMachines.compose(int,int,int)
        public int WeighedMachines.count(int,int)
        public int WeighedMachines.determine(int,int)
        public int WeighedMachines.endOf(int,int)
        public int WeighedMachines.feed(long,int)
        public int WeighedMachines.letter(int)
        public int WeighedMachines.parse(int)
        public int WeighedMachines.part(int,int,int)
        public int WeighedMachines.print(int)
        public int WeighedMachines.push(int,int)
        public int WeighedMachines.step(int,int)
        public int WeighedMachines.trim(int,int)
        public long WeighedMachines.best(int)
        public long WeighedMachines.weigh(int,int,int)
        """;

    private static final TreeSet<String> seen = new TreeSet<>();

    private static void look(Member member, String told) {
        if (!Modifier.isPrivate(member.getModifiers()) && !member.isSynthetic()) {
            seen.add(told);
        }
    }

    public static void main(String[] args) {
        Check check = new Check();
        Class<?> type = WeighedMachines.class;
        for (Field field : type.getDeclaredFields()) {
            look(field, field.toGenericString());
        }
        for (Constructor<?> constructor : type.getDeclaredConstructors()) {
            look(constructor, constructor.toGenericString());
        }
        for (Method method : type.getDeclaredMethods()) {
            look(method, method.toGenericString());
        }
        check.due("the face", String.join("\n", seen), String.join("\n", new TreeSet<>(FACE.lines().toList())));
        check.due("public and final", type.getModifiers(), Modifier.PUBLIC | Modifier.FINAL);
        for (Class<?> inside : type.getDeclaredClasses()) {
            check.due(inside.getName() + " is static", Modifier.isStatic(inside.getModifiers()), true);
            check.due(inside.getName() + " is public", Modifier.isPublic(inside.getModifiers()), false);
        }
        check.due("NONE", WeighedMachines.NONE, -1);
        check.due("FULL", WeighedMachines.FULL, -2);
        check.due("UNFIT", WeighedMachines.UNFIT, -3);
        check.due("SYNTAX", WeighedMachines.SYNTAX, -4);
        check.due("RANGE", WeighedMachines.RANGE, -5);
        check.due("TWICE", WeighedMachines.TWICE, -6);
        check.finish();
    }
}
