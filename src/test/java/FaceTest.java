import java.lang.reflect.Constructor;
import java.lang.reflect.Field;
import java.lang.reflect.Method;
import java.lang.reflect.Modifier;
import java.util.Arrays;
import java.util.Set;
import java.util.TreeSet;

/** The public face is the document's, throws clauses too, and nothing else can be seen from outside. */
public final class FaceTest {
    private static final String[] METHODS = {
        "void set(int,int,int) throws IndexOutOfBoundsException,IllegalArgumentException",
        "void start() throws ",
        "void put(int,int) throws IndexOutOfBoundsException,IllegalArgumentException,IllegalStateException",
        "void pass(int) throws IllegalArgumentException,IllegalStateException",
        "int golomb(int,boolean,int) throws IllegalArgumentException,IllegalStateException",
        "int unary(int,int,int) throws IndexOutOfBoundsException,IllegalArgumentException,IllegalStateException",
        "void mark() throws IllegalStateException",
        "int finish() throws IllegalStateException",
        "int size() throws ",
        "int at(int) throws IndexOutOfBoundsException",
        "void alter(int,int) throws IndexOutOfBoundsException,IllegalArgumentException",
        "boolean load() throws IllegalStateException",
        "int get(int) throws IndexOutOfBoundsException,IllegalStateException",
        "int getPass() throws IllegalStateException",
        "int getGolomb(int,boolean) throws IllegalArgumentException,IllegalStateException",
        "int getUnary(int,int) throws IndexOutOfBoundsException,IllegalArgumentException,IllegalStateException",
        "boolean ended() throws IllegalStateException",
        "int about(boolean,int) throws IndexOutOfBoundsException",
        "int engine(int) throws IllegalArgumentException",
    };

    private static int wrong = 0;

    private static void due(String what, Object got, Object want) {
        if (!got.equals(want)) {
            wrong++;
            System.out.println(what + " is " + got + ", due is " + want);
        }
    }

    private static String names(Class<?>[] types) {
        StringBuilder all = new StringBuilder();
        for (Class<?> type : types) {
            all.append(all.length() == 0 ? "" : ",").append(type.getSimpleName());
        }
        return all.toString();
    }

    private static String describe(Method m) {
        return m.getReturnType().getSimpleName() + " " + m.getName() + "(" + names(m.getParameterTypes())
                + ") throws " + names(m.getExceptionTypes());
    }

    private static void kindOfClass(Class<BinStreams> face) {
        due("the class", Modifier.toString(face.getModifiers()), "public final");
        due("its package", face.getPackageName(), "");
        due("what it extends", face.getSuperclass(), Object.class);
        due("what it implements", face.getInterfaces().length, 0);
        due("its type parameters", face.getTypeParameters().length, 0);
    }

    private static void methods(Class<BinStreams> face) {
        Set<String> seen = new TreeSet<>();
        Set<String> publicNames = new TreeSet<>();
        Set<String> privateNames = new TreeSet<>();
        for (Method m : face.getDeclaredMethods()) {
            if (Modifier.isPrivate(m.getModifiers())) {
                privateNames.add(m.getName());
            } else {
                due(m.getName() + "'s modifiers", Modifier.toString(m.getModifiers()), "public");
                seen.add(describe(m));
                publicNames.add(m.getName());
            }
        }
        due("the methods", seen, new TreeSet<>(Arrays.asList(METHODS)));
        privateNames.retainAll(publicNames);
        due("private methods with a public one's name", privateNames, Set.of());
    }

    private static void fields(Class<BinStreams> face) throws Exception {
        due("WRONG", BinStreams.WRONG, 100000);
        due("WRONG's type", face.getField("WRONG").getType(), int.class);
        due("WRONG's modifiers", Modifier.toString(face.getField("WRONG").getModifiers()), "public static final");
        due("how many public fields", face.getFields().length, 1);
        for (Field f : face.getDeclaredFields()) {
            if (!f.getName().equals("WRONG")) {
                due(f.getName() + " is private", Modifier.isPrivate(f.getModifiers()), true);
            }
            due(f.getName() + " is final where it is static",
                    !Modifier.isStatic(f.getModifiers()) || Modifier.isFinal(f.getModifiers()), true);
        }
    }

    private static void classesInside(Class<BinStreams> face) {
        for (Class<?> inside : face.getDeclaredClasses()) {
            int kind = inside.getModifiers();
            due(inside.getName() + " can be seen", Modifier.isPublic(kind) || Modifier.isProtected(kind), false);
        }
    }

    public static void main(String[] args) throws Exception {
        Class<BinStreams> face = BinStreams.class;
        kindOfClass(face);
        methods(face);
        fields(face);
        classesInside(face);
        Constructor<?>[] makers = face.getDeclaredConstructors();
        due("how many constructors", makers.length, 1);
        due("the constructor", makers[0].toString(), "public BinStreams()");

        System.out.println(wrong == 0 ? "the face is as due" : wrong + " parts of the face are not as due");
        if (wrong != 0) System.exit(1);
    }
}
