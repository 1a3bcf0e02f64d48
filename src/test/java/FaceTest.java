import java.lang.reflect.Constructor;
import java.lang.reflect.Field;
import java.lang.reflect.Method;
import java.lang.reflect.Modifier;
import java.util.Arrays;
import java.util.Set;
import java.util.TreeSet;

/** The public face: exactly the document's constants, constructor and methods. */
public final class FaceTest {
    private static final String CONSTANTS = "NONE=-1 NO_SUCH=-2 BAD_VALUE=-3 FULL=-4 TOO_LATE=-5 SWINGING=-6 "
            + "CLASH=-7 POWER=-8 MISSING=-9 BUSY=-10 TOO_STRONG=-11";

    /** Each method's name and its number of parameters, all of them int but for holdClapper's second. */
    private static final String METHODS = "addBell/4 bellCount/0 delay/1 calibrate/2 setPowerLimit/1 currentTime/0 "
            + "advance/1 recordLength/0 recordBell/1 recordTime/1 recordClapper/1 scheduleStroke/2 cancelStroke/2 "
            + "scheduledCount/0 nextStroke/1 commandTime/1 commandBell/1 movingHammers/1 earliestStroke/2 "
            + "appendBytes/5 loadPattern/2 patternError/0 patternErrorPosition/0 stepBells/2 patternStrokes/1 "
            + "play/3 weave/4 fastestTicks/1 powerNeeded/2 addEntry/5 removeEntry/1 entryCount/0 dueTime/1 "
            + "lastShift/1 failureCount/0 startSwing/2 stopMotor/1 holdClapper/2 amplitude/1 nextTurn/1 "
            + "amplitudeAfter/2 turnsUntilLoud/1 force/1 shake/1 greatestShake/1 setShakeLimit/1 calmestWait/2";

    private static Set<String> words(String line) {
        return new TreeSet<>(Arrays.asList(line.split(" ")));
    }

    private static boolean hidden(int modifiers) {
        return Modifier.isPrivate(modifiers);
    }

    private static void same(String what, Set<String> got, Set<String> want) {
        Set<String> more = new TreeSet<>(got);
        more.removeAll(want);
        Set<String> missing = new TreeSet<>(want);
        missing.removeAll(got);
        Check.holds(what + ": missing " + missing + ", too many " + more, more.isEmpty() && missing.isEmpty());
    }

    private static void fields() throws IllegalAccessException {
        Set<String> got = new TreeSet<>();
        for (Field field : BellController.class.getDeclaredFields()) {
            int modifiers = field.getModifiers();
            if (!hidden(modifiers)) {
                Check.holds(field.getName() + " is a public constant", Modifier.isPublic(modifiers)
                        && Modifier.isStatic(modifiers) && Modifier.isFinal(modifiers) && field.getType() == int.class);
                got.add(field.getName() + "=" + field.getInt(null));
            }
            Check.holds(field.getName() + " is final if it is static",
                    !Modifier.isStatic(modifiers) || Modifier.isFinal(modifiers));
        }
        same("constants", got, words(CONSTANTS));
    }

    private static void methods() {
        Set<String> got = new TreeSet<>();
        Set<String> hiddenNames = new TreeSet<>();
        for (Method method : BellController.class.getDeclaredMethods()) {
            if (hidden(method.getModifiers())) {
                hiddenNames.add(method.getName());
                continue;
            }
            got.add(method.getName() + "/" + method.getParameterCount());
            Check.holds(method + " is public and of the object", method.getModifiers() == Modifier.PUBLIC);
            Check.holds(method + " answers an int", method.getReturnType() == int.class);
            for (int i = 0; i < method.getParameterCount(); i++) {
                boolean flag = method.getName().equals("holdClapper") && i == 1;
                Check.holds(method + " takes what is due",
                        method.getParameterTypes()[i] == (flag ? boolean.class : int.class));
            }
        }
        same("methods", got, words(METHODS));
        for (String name : words(METHODS)) {
            Check.holds("no private method is named " + name, !hiddenNames.contains(name.replaceAll("/.*", "")));
        }
    }

    private static void constructors() {
        Constructor<?>[] constructors = BellController.class.getDeclaredConstructors();
        Check.due("the number of constructors", constructors.length, 1);
        Check.holds("the constructor is public", Modifier.isPublic(constructors[0].getModifiers()));
        Check.due("the constructor's parameters", constructors[0].getParameterCount(), 0);
    }

    private static void classes() {
        int modifiers = BellController.class.getModifiers();
        Check.holds("the class is public and final", modifiers == (Modifier.PUBLIC | Modifier.FINAL));
        Check.holds("the class extends Object", BellController.class.getSuperclass() == Object.class);
        Check.due("its interfaces", BellController.class.getInterfaces().length, 0);
        for (Class<?> inside : BellController.class.getDeclaredClasses()) {
            Check.holds(inside + " is static", Modifier.isStatic(inside.getModifiers()));
            Check.holds(inside + " is not public", !Modifier.isPublic(inside.getModifiers()));
        }
    }

    public static void main(String[] args) throws IllegalAccessException {
        fields();
        methods();
        constructors();
        classes();
        Check.end();
    }
}
