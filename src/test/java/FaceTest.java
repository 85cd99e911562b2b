import java.lang.reflect.Constructor;
import java.lang.reflect.Field;
import java.lang.reflect.Method;
import java.lang.reflect.Modifier;
import java.util.Set;
import java.util.TreeSet;

/** The face of the class: what the document lists, and nothing else that is not private. */
public final class FaceTest {
    private static final Set<String> FACE = Set.of(
            "int INVALID_ARGUMENT", "int INVALID_STATE", "int LIMIT_REACHED", "int NOT_FOUND",
            "()",
            "int setGlyphWidth(int,int)", "int setGlyphColumn(int,int,int)",
            "int glyphColumn(int,int)", "int append(int)", "int clearText()",
            "int insertMessage(int,int)", "int removeMessage(int)", "int setColor(int,int)",
            "int messageWidth(int)", "int messageStart(int)", "int setColumns(int)",
            "int setGap(int)", "int setSpeed(int)", "int setShift(int)", "int setBudget(int)",
            "int setDefective(int,int,boolean)", "int tick(int)", "int offset()",
            "int stripLength()", "int period()", "int ticksUntilWhole(int)", "int pixel(int,int)",
            "int load()", "int brightness()", "int peakLoad()", "int peakOffset()",
            "int damage(int)", "int adoptBestShift()");

    private FaceTest() {
    }

    public static void main(String[] args) {
        Class<?> type = MarqueeDisplay.class;
        Due.due("the class is public and final",
                type.getModifiers() & (Modifier.PUBLIC | Modifier.FINAL),
                Modifier.PUBLIC | Modifier.FINAL);
        Set<String> found = new TreeSet<>();
        for (Field field : type.getDeclaredFields()) {
            if (!Modifier.isPrivate(field.getModifiers())) {
                found.add(field.getType() + " " + field.getName());
                dueModifiers(field.getName(), field.getModifiers(),
                        Modifier.PUBLIC | Modifier.STATIC | Modifier.FINAL);
            }
        }
        for (Constructor<?> constructor : type.getDeclaredConstructors()) {
            found.add(parameters(constructor.getParameterTypes()));
            dueModifiers("the constructor", constructor.getModifiers(), Modifier.PUBLIC);
        }
        for (Method method : type.getDeclaredMethods()) {
            if (Modifier.isPrivate(method.getModifiers())) {
                Due.due("the private " + method.getName() + " bears a public name",
                        isPublicName(method.getName()) ? 1 : 0, 0);
            } else {
                found.add(method.getReturnType() + " " + method.getName()
                        + parameters(method.getParameterTypes()));
                dueModifiers(method.getName(), method.getModifiers(), Modifier.PUBLIC);
            }
        }
        for (String member : FACE) {
            Due.due(member + " is there", found.contains(member) ? 1 : 0, 1);
        }
        for (String member : found) {
            Due.due(member + " is in the document", FACE.contains(member) ? 1 : 0, 1);
        }
        Due.end();
    }

    private static boolean isPublicName(String name) {
        for (String member : FACE) {
            if (member.startsWith("int " + name + "(")) {
                return true;
            }
        }
        return false;
    }

    private static void dueModifiers(String member, int got, int want) {
        Due.due("modifiers of " + member, got, want);
    }

    private static String parameters(Class<?>[] types) {
        StringBuilder text = new StringBuilder("(");
        for (int i = 0; i < types.length; i++) {
            text.append(i == 0 ? "" : ",").append(types[i]);
        }
        return text.append(")").toString();
    }
}
