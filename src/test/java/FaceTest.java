import java.lang.reflect.Constructor;
import java.lang.reflect.Field;
import java.lang.reflect.Method;
import java.lang.reflect.Modifier;
import java.util.ArrayList;
import java.util.Arrays;
import java.util.Collections;
import java.util.HashSet;
import java.util.List;
import java.util.Set;

/** The public face, and the rules 1, 2, 3, 5 and 11 of LANGUAGE.md as far as the compiled class shows them. */
public final class FaceTest {
    private static final Check CHECK = new Check();
    private static final String[] FACE = {"int form 6", "int read 1", "int about 2", "int fill 3", "int asOf 1",
        "int type 2", "int wipe 1", "int fault 1", "int asks 2", "int counts 2", "long share 2", "int law 2",
        "int sinks 2", "int worth 2", "int depth 0", "int sea 2", "int habit 2", "int boat 3", "long odds 3",
        "int missed 3", "int ladder 3", "long losses 3", "int size 1", "long mean 5", "long did 5", "long leans 4",
        "int hours 2", "int plan 4", "int waits 2", "int order 3", "int sheet 3", "int lose 1", "int lay 4",
        "int get 3", "int copy 5", "int write 3", "int count 1", "long digest 0"};

    public static void main(String[] args) throws IllegalAccessException {
        face();
        fields();
        names();
        classesInside();
        CHECK.end();
    }

    private static void face() {
        Class<?> room = FormRoom.class;
        CHECK.holds("public and final", Modifier.isPublic(room.getModifiers()) && Modifier.isFinal(room.getModifiers()));
        Constructor<?>[] made = room.getDeclaredConstructors();
        CHECK.holds("one constructor", made.length == 1 && made[0].getParameterCount() == 0
                && Modifier.isPublic(made[0].getModifiers()));
        List<String> face = new ArrayList<>();
        for (Method method : room.getDeclaredMethods()) {
            if (!Modifier.isPrivate(method.getModifiers())) {
                face.add(method.getReturnType() + " " + method.getName() + " " + method.getParameterCount());
                CHECK.holds(method + " is public", Modifier.isPublic(method.getModifiers()));
                CHECK.holds(method + " is of the object", !Modifier.isStatic(method.getModifiers()));
                for (Class<?> type : method.getParameterTypes()) {
                    CHECK.holds(method + " takes ints", type == int.class);
                }
            }
        }
        List<String> due = new ArrayList<>(Arrays.asList(FACE));
        Collections.sort(due);
        Collections.sort(face);
        CHECK.holds("the face is " + face, face.equals(due));
    }

    private static void fields() throws IllegalAccessException {
        List<String> open = new ArrayList<>();
        for (Field field : FormRoom.class.getDeclaredFields()) {
            if (!Modifier.isPrivate(field.getModifiers())) {
                open.add(field.getName());
                boolean constant = Modifier.isPublic(field.getModifiers()) && Modifier.isStatic(field.getModifiers())
                        && Modifier.isFinal(field.getModifiers()) && field.getType() == int.class;
                CHECK.holds(field + " is a constant", constant);
            }
        }
        CHECK.holds("constants " + open, open.equals(List.of("NONE", "BAD", "NOT", "FULL")));
        CHECK.due("NONE", FormRoom.NONE, -1);
        CHECK.due("BAD", FormRoom.BAD, -2);
        CHECK.due("NOT", FormRoom.NOT, -3);
        CHECK.due("FULL", FormRoom.FULL, -4);
    }

    private static void names() {
        Set<String> open = new HashSet<>();
        for (String line : FACE) {
            open.add(line.split(" ")[1]);
        }
        for (Class<?> type : all()) {
            for (Method method : type.getDeclaredMethods()) {
                boolean own = type == FormRoom.class && Modifier.isPublic(method.getModifiers());
                CHECK.holds(method + " has a name of its own", own || !open.contains(method.getName()));
                CHECK.holds(method + " has at most seven parameters", method.getParameterCount() <= 7);
            }
        }
    }

    private static void classesInside() {
        CHECK.holds("at most twelve classes", all().size() <= 12);
        for (Class<?> type : all()) {
            if (type != FormRoom.class) {
                CHECK.holds(type + " is static", Modifier.isStatic(type.getModifiers()));
                CHECK.holds(type + " is not public", !Modifier.isPublic(type.getModifiers())
                        && !Modifier.isProtected(type.getModifiers()));
            }
            int fields = 0;
            for (Field field : type.getDeclaredFields()) {
                boolean constant = Modifier.isStatic(field.getModifiers());
                fields += constant ? 0 : 1;
                CHECK.holds(field + " is final", !constant || Modifier.isFinal(field.getModifiers()));
                Set<Class<?>> constants = Set.of(int.class, long.class, boolean.class, char.class, String.class,
                        int[].class, long[].class, char[].class, byte[].class);
                CHECK.holds(field + " is of such a type", !constant || constants.contains(field.getType()));
            }
            CHECK.holds(type + " has at most twenty fields", fields <= 20);
        }
    }

    private static List<Class<?>> all() {
        List<Class<?>> all = new ArrayList<>(List.of(FormRoom.class));
        all.addAll(Arrays.asList(FormRoom.class.getDeclaredClasses()));
        return all;
    }
}
