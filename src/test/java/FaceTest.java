import java.lang.reflect.Constructor;
import java.lang.reflect.Field;
import java.lang.reflect.Method;
import java.lang.reflect.Modifier;
import java.util.ArrayList;
import java.util.List;
import java.util.TreeSet;

/** The class shows the document's public face, that alone, and hides all else as LANGUAGE.md asks (rules 1 and 5). */
public final class FaceTest {
    private static final String[] FACE = {
        "int desert(int)", "int corporal(int,int)", "int dip(int,int)", "int comes(int,int,int)",
        "int fills(int,int)", "int blows(int)", "int rests(int)", "int moves(int,int)", "int flood()",
        "int days(int)", "int corporalThen(int,int,int)", "int dipThen(int,int,int)", "int dipsDone(int)",
        "int ends(int)", "int meet(int,int)", "int line(int)", "int treaty(int)", "int bestWind(int,int)",
        "int send(int,int,int)", "int idle(int)", "int slowest(int)", "int lost(int)", "int heap(int,int)",
        "int begin(int,int)", "int pairs()", "int even(int)", "int howMany(int,int,int)",
        "int whatIs(int,int,int)", "int two(int,int)", "long storm(int,int,int,int)", "long mean(int)",
        "int forged(int)", "int judge(int)", "int deserts(int,int,int)", "int image()", "int restore()",
        "int count(int)", "int keep(int,int,int,int)", "int row(int,int,int)", "int put(int,int,int)",
        "long element(int,int)", "int copy(int,int,int,int,int)", "int cost(int)", "int toss(int)"};

    public static void main(String[] args) {
        Check.about("the public face");
        Class<?> type = DesertIsCounted.class;
        Check.due("modifiers", Modifier.toString(Modifier.PUBLIC | Modifier.FINAL), Modifier.toString(type.getModifiers()));
        Check.due("methods", String.valueOf(new TreeSet<>(List.of(FACE))), String.valueOf(shown(type)));
        Check.due("how many constructors", 1, type.getDeclaredConstructors().length);
        for (Constructor<?> made : type.getDeclaredConstructors()) {
            Check.due("constructor", "public DesertIsCounted()", made.toString());
        }
        hidesAllElse(type);
        elementTellsWhatItThrows();
        Check.end();
    }

    private static TreeSet<String> shown(Class<?> type) {
        TreeSet<String> shown = new TreeSet<>();
        for (Method method : type.getDeclaredMethods()) {
            if (!Modifier.isPrivate(method.getModifiers()) && !method.isSynthetic()) {
                shown.add((Modifier.isPublic(method.getModifiers()) ? "" : "not public: ") + signature(method));
            }
        }
        return shown;
    }

    private static String signature(Method method) {
        List<String> parameters = new ArrayList<>();
        for (Class<?> parameter : method.getParameterTypes()) {
            parameters.add(parameter.getSimpleName());
        }
        return method.getReturnType().getSimpleName() + " " + method.getName() + "(" + String.join(",", parameters) + ")";
    }

    private static void hidesAllElse(Class<?> type) {
        TreeSet<String> publicNames = new TreeSet<>();
        for (String signature : FACE) {
            publicNames.add(signature.substring(signature.indexOf(' ') + 1, signature.indexOf('(')));
        }
        List<Class<?>> types = new ArrayList<>(List.of(type.getDeclaredClasses()));
        for (Class<?> inside : types) {
            Check.due(inside.getName() + " is static and not shown", 1,
                Modifier.isStatic(inside.getModifiers()) && !Modifier.isPublic(inside.getModifiers()) ? 1 : 0);
            for (Method method : inside.getDeclaredMethods()) {
                Check.due(method + " bears a public name", 0, publicNames.contains(method.getName()) ? 1 : 0);
            }
        }
        types.add(type);
        for (Class<?> one : types) {
            for (Field field : one.getDeclaredFields()) {
                int modifiers = field.getModifiers();
                Check.due(field + " is static without being final", 0,
                    Modifier.isStatic(modifiers) && !Modifier.isFinal(modifiers) ? 1 : 0);
                Check.due(field + " is shown by the class of the face", 0,
                    one == type && !Modifier.isPrivate(modifiers) ? 1 : 0);
            }
        }
        for (Method method : type.getDeclaredMethods()) {
            Check.due(method + " is private with a public name", 0,
                Modifier.isPrivate(method.getModifiers()) && publicNames.contains(method.getName()) ? 1 : 0);
        }
    }

    private static void elementTellsWhatItThrows() {
        for (Method method : DesertIsCounted.class.getDeclaredMethods()) {
            if (method.getName().equals("element")) {
                Check.due("element throws", "[class java.lang.IllegalArgumentException, class java.lang.IllegalStateException]",
                    List.of(method.getExceptionTypes()).toString());
            } else if (Modifier.isPublic(method.getModifiers())) {
                Check.due(method + " throws", 0, method.getExceptionTypes().length);
            }
        }
    }
}
