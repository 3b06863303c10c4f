import java.lang.reflect.Field;
import java.lang.reflect.Method;
import java.lang.reflect.Modifier;
import java.util.Set;
import java.util.TreeSet;

/** The public face is the document's, and nothing else is seen from outside. */
public final class FaceTest {
    private static final Due due = new Due("FaceTest");

    private static final String[] METHODS = {
        "int draw(int,int) I A", "int wave(int,int) I A", "int stride(int) A", "int setWaves(int,int,int,int,int) I A",
        "int setEnvelope(int,int,int,int,int) I A", "int setFilter(int,int,int) I A", "int setVibrato(int,int,int) I A",
        "int setGain(int) A", "int setDelay(int,int,int) A", "int begin(int,int,int) I A", "int end(int) I",
        "int hush()", "int write(int,int,int,int,int) I A", "int setTrack(int,int) I", "int setTempo(int,int) A",
        "boolean play(int) I", "int stop()", "int sample()", "int run(int) A", "int heard(int) A", "int clock()",
        "int peak()", "double loudness()", "int clipped()", "int crossings()", "int reset()", "int ofVoice(int,int) I A",
        "int sounding()", "int taken()", "boolean isPlaying()", "int step()", "int ofStep(int,int,int) I A",
        "int inDelay(int) I", "int wouldPeak(int) A", "int silentIn(int) A", "int nextVoice()", "long digest()",
    };

    public static void main(String[] args) {
        Class<?> face = Melodeon.class;
        due.yes("public and final", Modifier.isPublic(face.getModifiers()) && Modifier.isFinal(face.getModifiers()));
        due.same("constructors", face.getDeclaredConstructors().length, 1);
        due.same("public constructors without parameters",
            face.getConstructors().length == 1 ? face.getConstructors()[0].getParameterCount() : -1, 0);
        Set<String> wanted = new TreeSet<>(Set.of(METHODS));
        Set<String> names = new TreeSet<>();
        for (Method method : face.getDeclaredMethods()) {
            if (Modifier.isPrivate(method.getModifiers())) {
                continue;
            }
            names.add(method.getName());
            due.yes("wanted: " + told(method), wanted.remove(told(method)));
            due.yes("public, not static: " + method.getName(), Modifier.isPublic(method.getModifiers())
                && !Modifier.isStatic(method.getModifiers()));
        }
        due.yes("not there: " + wanted, wanted.isEmpty());
        for (Method method : face.getDeclaredMethods()) {
            if (Modifier.isPrivate(method.getModifiers())) {
                due.no("a private method bears a public name: " + method.getName(), names.contains(method.getName()));
            }
        }
        for (Field field : face.getDeclaredFields()) {
            due.yes("private: " + field.getName(), Modifier.isPrivate(field.getModifiers()));
        }
        for (Class<?> inside : face.getDeclaredClasses()) {
            due.yes("private: " + inside.getName(), Modifier.isPrivate(inside.getModifiers()));
        }
        due.end();
    }

    private static String told(Method method) {
        StringBuilder text = new StringBuilder(method.getReturnType() + " " + method.getName() + "(");
        for (int i = 0; i < method.getParameterCount(); i++) {
            text.append(i == 0 ? "" : ",").append(method.getParameterTypes()[i]);
        }
        text.append(")");
        for (Class<?> thrown : method.getExceptionTypes()) {
            text.append(thrown == IndexOutOfBoundsException.class ? " I" : " A");
        }
        return text.toString();
    }
}
