import java.lang.reflect.Constructor;
import java.lang.reflect.Field;
import java.lang.reflect.Method;
import java.lang.reflect.Modifier;
import java.util.Arrays;
import java.util.Set;
import java.util.TreeSet;

/** The class shows the document's face, and nothing else of it can be seen from outside. */
public final class FaceTest {
    private static final String[] FACE = {
        "public SmoothedGrams()",
        "public boolean SmoothedGrams.discount(int,int)",
        "public boolean SmoothedGrams.order(int)",
        "public boolean SmoothedGrams.word(int)",
        "public int SmoothedGrams.against()",
        "public int SmoothedGrams.count(int,int,int,int)",
        "public int SmoothedGrams.erase()",
        "public int SmoothedGrams.forget()",
        "public int SmoothedGrams.gram(int,int)",
        "public int SmoothedGrams.grams(int)",
        "public int SmoothedGrams.kinds(int,int,int)",
        "public int SmoothedGrams.learn()",
        "public int SmoothedGrams.likeliest(int,int)",
        "public int SmoothedGrams.score(int,int)",
        "public int SmoothedGrams.total(int,int,int)",
        "public long SmoothedGrams.bottom(int,int,int)",
        "public long SmoothedGrams.top(int,int,int)",
        "public static final int SmoothedGrams.NONE",
        "public void SmoothedGrams.keep()",
    };

    private FaceTest() {
    }

    public static void main(String[] args) {
        Set<String> due = new TreeSet<>(Arrays.asList(FACE));
        Set<String> seen = visibleMembers();
        for (String member : due) {
            Checks.due(member + " is there", seen.contains(member), true);
        }
        for (String member : seen) {
            Checks.due(member + " is in the document", due.contains(member), true);
        }
        Checks.due("the class is public", Modifier.isPublic(SmoothedGrams.class.getModifiers()), true);
        Checks.due("the class is final", Modifier.isFinal(SmoothedGrams.class.getModifiers()), true);
        noPrivateMethodHasAPublicName();
        Checks.end();
    }

    private static Set<String> visibleMembers() {
        Set<String> seen = new TreeSet<>();
        for (Constructor<?> one : SmoothedGrams.class.getDeclaredConstructors()) {
            seen.add(one.toString());
        }
        for (Method one : SmoothedGrams.class.getDeclaredMethods()) {
            if (!Modifier.isPrivate(one.getModifiers())) {
                seen.add(one.toString());
            }
        }
        for (Field one : SmoothedGrams.class.getDeclaredFields()) {
            if (!Modifier.isPrivate(one.getModifiers())) {
                seen.add(one.toString());
            }
        }
        return seen;
    }

    private static void noPrivateMethodHasAPublicName() {
        Set<String> names = new TreeSet<>();
        for (Method one : SmoothedGrams.class.getMethods()) {
            names.add(one.getName());
        }
        for (Method one : SmoothedGrams.class.getDeclaredMethods()) {
            if (Modifier.isPrivate(one.getModifiers())) {
                Checks.due(one.getName() + " is a public name", names.contains(one.getName()), false);
            }
        }
    }
}
