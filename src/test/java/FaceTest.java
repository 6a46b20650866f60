import java.lang.reflect.Constructor;
import java.lang.reflect.Field;
import java.lang.reflect.Method;
import java.lang.reflect.Modifier;
import java.util.ArrayList;
import java.util.Arrays;
import java.util.HashSet;
import java.util.List;
import java.util.Set;
import java.util.TreeSet;

/** The public face is the document's, and nothing else is to be seen from outside. */
public final class FaceTest {
    private static final String[] FACE = {
        "feed(int,int,int,int,int)int",
        "end(int)boolean",
        "thing(int,int,int,int)int IllegalArgumentException UnsupportedOperationException",
        "price(int,int,int,int)int IndexOutOfBoundsException IllegalArgumentException UnsupportedOperationException",
        "costs(int,int)int IndexOutOfBoundsException",
        "coming(int,int,int)int IndexOutOfBoundsException IllegalArgumentException UnsupportedOperationException",
        "stock(int)int IndexOutOfBoundsException",
        "rules()int IllegalArgumentException",
        "says(int)int NoSuchElementException",
        "instead(int)int IndexOutOfBoundsException",
        "letter()int IllegalArgumentException UnsupportedOperationException",
        "fault()int",
        "doubt(int,int)int IndexOutOfBoundsException NoSuchElementException",
        "settle(int,boolean)int IndexOutOfBoundsException IllegalStateException UnsupportedOperationException",
        "days(int)int IllegalArgumentException",
        "order(int,int)int IndexOutOfBoundsException NoSuchElementException",
        "want(int,int,int)int IndexOutOfBoundsException NoSuchElementException",
        "back(int,int,int)boolean IndexOutOfBoundsException IllegalArgumentException",
        "sending(int,int)int IndexOutOfBoundsException NoSuchElementException",
        "pick(int)int IndexOutOfBoundsException",
        "walk()int",
        "foretold(int,int,int,int,int)int IndexOutOfBoundsException IllegalArgumentException NoSuchElementException",
        "count(int)int",
    };

    private FaceTest() {
    }

    public static void main(String[] args) {
        Class<?> house = PostHouse.class;
        Check.due("PostHouse is public and final", Modifier.isPublic(house.getModifiers())
                && Modifier.isFinal(house.getModifiers()), true);
        Check.due("NONE", PostHouse.NONE, -1);
        methods(house);
        fieldsAndConstructors(house);
        classesInside(house);
        Check.finish();
    }

    private static void methods(Class<?> house) {
        Set<String> seen = new TreeSet<>();
        for (Method method : house.getDeclaredMethods()) {
            if (!Modifier.isPrivate(method.getModifiers())) {
                Check.due(method.getName() + " is public and of objects",
                        method.getModifiers() == Modifier.PUBLIC, true);
                seen.add(shape(method));
            }
        }
        Check.due("the face", seen.toString(), new TreeSet<>(Arrays.asList(FACE)).toString());
    }

    private static String shape(Method method) {
        List<String> types = new ArrayList<>();
        for (Class<?> type : method.getParameterTypes()) {
            types.add(type.getSimpleName());
        }
        StringBuilder shape = new StringBuilder(method.getName());
        shape.append('(').append(String.join(",", types)).append(')');
        shape.append(method.getReturnType().getSimpleName());
        for (Class<?> thrown : method.getExceptionTypes()) {
            shape.append(' ').append(thrown.getSimpleName());
        }
        return shape.toString();
    }

    private static void fieldsAndConstructors(Class<?> house) {
        for (Field field : house.getDeclaredFields()) {
            boolean isNone = field.getName().equals("NONE");
            Check.due(field.getName() + " is private", Modifier.isPrivate(field.getModifiers()), !isNone);
        }
        Constructor<?>[] made = house.getDeclaredConstructors();
        Check.due("constructors", made.length, 1);
        Check.due("the constructor is public", Modifier.isPublic(made[0].getModifiers()), true);
        Check.due("the constructor's parameters", made[0].getParameterCount(), 0);
    }

    private static void classesInside(Class<?> house) {
        Set<String> face = new HashSet<>();
        for (String method : FACE) {
            face.add(method.substring(0, method.indexOf('(')));
        }
        List<Class<?>> classes = new ArrayList<>(Arrays.asList(house.getDeclaredClasses()));
        for (Class<?> inside : classes) {
            Check.due(inside.getName() + " is static", Modifier.isStatic(inside.getModifiers()), true);
            Check.due(inside.getName() + " is not public", Modifier.isPublic(inside.getModifiers()), false);
        }
        classes.add(house);
        Check.due("classes are twelve at most", classes.size() <= 12, true);
        for (Class<?> each : classes) {
            for (Method method : each.getDeclaredMethods()) {
                String name = each.getSimpleName() + "." + method.getName();
                Check.due(name + " has seven parameters at most", method.getParameterCount() <= 7, true);
                Check.due(name + " bears a name of the face",
                        !Modifier.isPublic(method.getModifiers()) && face.contains(method.getName()), false);
            }
            for (Field field : each.getDeclaredFields()) {
                Check.due(field.getName() + " is static and not final", Modifier.isStatic(field.getModifiers())
                        && !Modifier.isFinal(field.getModifiers()), false);
            }
        }
    }
}
