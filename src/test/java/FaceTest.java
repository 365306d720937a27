import java.lang.reflect.Field;
import java.lang.reflect.Method;
import java.lang.reflect.Modifier;
import java.util.ArrayList;
import java.util.List;
import java.util.TreeSet;

/** The class shows the document's face and nothing else. */
final class FaceTest {
    private static final String[] METHODS = {
        "int append(int,int,int,int,int)", "int load(int)", "int errorOffset()",
        "int zoneCount()", "int sheetCount()", "int clock()", "int zone(int,int)",
        "int thickness(int)", "int temperature(int)", "int state(int)", "int quenched()",
        "int quenchLeft()", "int count(int)", "int learned(int,int)", "int risk(int)",
        "int recognise(int,int)", "int guard(int)", "int finishTime(int)",
        "int stateAfter(int,int)", "int bestSetpoint()", "int add(int,int)", "int run(int)",
        "int setPoint(int,int)", "int setCorrection(int,int)", "int scrap(int)", "int undo()",
        "long checksum()"};
    private static final String[] CONSTANTS = {
        "SYNTAX_ERROR=-2", "OUT_OF_RANGE=-3", "TOO_MANY=-4", "TOO_DEEP=-5", "WAITING=0",
        "HEATED=1", "QUENCHED=2", "DONE=3", "BROKEN=4", "SPOILED=5"};

    public static void main(String[] args) throws IllegalAccessException {
        TreeSet<String> names = new TreeSet<>();
        List<String> methods = new ArrayList<>();
        for (Method method : TemperingLine.class.getDeclaredMethods()) {
            if (!Modifier.isPrivate(method.getModifiers()) && !method.isSynthetic()) {
                List<String> parameters = new ArrayList<>();
                for (Class<?> type : method.getParameterTypes()) {
                    parameters.add(type.getName());
                }
                methods.add(method.getReturnType().getName() + " " + method.getName() + "("
                        + String.join(",", parameters) + ")");
                names.add(method.getName());
                Due.is("public " + method, Modifier.isPublic(method.getModifiers()) ? 1 : 0, 1);
            }
        }
        Due.is("methods", new TreeSet<>(methods).equals(new TreeSet<>(List.of(METHODS))) ? 1 : 0, 1);
        List<String> constants = new ArrayList<>();
        for (Field field : TemperingLine.class.getDeclaredFields()) {
            if (!Modifier.isPrivate(field.getModifiers()) && !field.isSynthetic()) {
                constants.add(field.getName() + "=" + field.getInt(null));
            }
        }
        Due.is("constants",
                new TreeSet<>(constants).equals(new TreeSet<>(List.of(CONSTANTS))) ? 1 : 0, 1);
        int modifiers = TemperingLine.class.getModifiers();
        Due.is("final", Modifier.isFinal(modifiers) && Modifier.isPublic(modifiers) ? 1 : 0, 1);
        Due.is("constructors", TemperingLine.class.getDeclaredConstructors().length, 1);
        noHiddenNames(TemperingLine.class, names);
        Due.report();
    }

    /** No private method bears the name of a public one, in the classes inside either. */
    private static void noHiddenNames(Class<?> where, TreeSet<String> names) {
        for (Method method : where.getDeclaredMethods()) {
            boolean hidden = where != TemperingLine.class
                    || Modifier.isPrivate(method.getModifiers());
            if (hidden && names.contains(method.getName())) {
                Due.fail("a private method bears a public name: " + method);
            }
        }
        for (Class<?> inside : where.getDeclaredClasses()) {
            noHiddenNames(inside, names);
        }
    }
}
