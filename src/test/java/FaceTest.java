import java.lang.reflect.Constructor;
import java.lang.reflect.Field;
import java.lang.reflect.Method;
import java.lang.reflect.Modifier;
import java.util.ArrayList;
import java.util.HashSet;
import java.util.List;
import java.util.Set;
import java.util.TreeSet;

/** The public face: its constants, its constructor and its methods, and nothing beside them. */
public final class FaceTest {
    private static final String[] METHODS = {
        "days() int",
        "number(int,int,int) int IndexOutOfBounds",
        "numberByCounting(int,int,int) int IndexOutOfBounds",
        "yearOf(int) int IndexOutOfBounds",
        "monthOf(int) int IndexOutOfBounds",
        "dayOf(int) int IndexOutOfBounds",
        "weekdayOf(int) int IndexOutOfBounds",
        "anchorOf(int) int IndexOutOfBounds",
        "anchorMonthOf(int) int IndexOutOfBounds",
        "countOf(int) int IndexOutOfBounds",
        "isDoubled(int) boolean IndexOutOfBounds",
        "fromCount(int,int,int,int,boolean) int IndexOutOfBounds IllegalArgument IllegalState",
        "greatestCount(int,int,int) int IndexOutOfBounds IllegalArgument",
        "lawNumber(int) int IndexOutOfBounds",
        "termEnd(int,int) int IndexOutOfBounds IllegalArgument IllegalState",
        "lawDays(int,int) int IndexOutOfBounds",
        "placeOf(int) int IndexOutOfBounds",
        "letterOfEight(int) int IndexOutOfBounds",
        "letterOfSeven(int) int IndexOutOfBounds",
        "setMarketDay(int) int IndexOutOfBounds",
        "isMarket(int) boolean IndexOutOfBounds",
        "marketLetters(int) int IndexOutOfBounds",
        "sundayLetters(int) int IndexOutOfBounds",
        "setConsuls(int,int,int) int IndexOutOfBounds IllegalArgument IllegalState",
        "strikeConsuls(int) int IndexOutOfBounds IllegalState",
        "consulsOf(int) int IndexOutOfBounds",
        "afterConsuls(int) int IndexOutOfBounds",
        "yearOfConsuls(int,int,int) int IllegalArgument",
        "setCharacter(int,int) int IndexOutOfBounds IllegalArgument",
        "characterOf(int) int IndexOutOfBounds",
        "canVote(int) boolean IndexOutOfBounds",
        "nextCourt(int) int IndexOutOfBounds",
        "votes(int) int IndexOutOfBounds",
    };
    private static final String[] CONSTANTS = {
        "NONE=-1", "KALENDS=0", "NONES=1", "IDES=2",
        "FASTUS=0", "NEFASTUS=1", "COMITIALIS=2", "ENDOTERCISUS=3",
    };

    public static void main(String[] args) throws IllegalAccessException {
        Check check = new Check();
        int modifiers = RomanCalendar.class.getModifiers();
        check.yes("public", Modifier.isPublic(modifiers));
        check.yes("final", Modifier.isFinal(modifiers));
        check.equal("constants", constants(check), new TreeSet<>(List.of(CONSTANTS)));
        check.equal("methods", methods(check), new TreeSet<>(List.of(METHODS)));
        Constructor<?>[] constructors = RomanCalendar.class.getDeclaredConstructors();
        check.equal("constructors", constructors.length, 1);
        check.equal("its parameters", constructors[0].getParameterCount(), 0);
        check.yes("it is public", Modifier.isPublic(constructors[0].getModifiers()));
        check.end();
    }

    private static Set<String> constants(Check check) throws IllegalAccessException {
        Set<String> seen = new TreeSet<>();
        for (Field field : RomanCalendar.class.getDeclaredFields()) {
            if (Modifier.isPrivate(field.getModifiers())) {
                continue;
            }
            int due = Modifier.PUBLIC | Modifier.STATIC | Modifier.FINAL;
            check.equal(field.getName() + "'s modifiers", field.getModifiers(), due);
            check.equal(field.getName() + "'s type", field.getType(), int.class);
            seen.add(field.getName() + "=" + field.getInt(null));
        }
        return seen;
    }

    private static Set<String> methods(Check check) {
        Set<String> seen = new TreeSet<>();
        Set<String> names = new HashSet<>();
        List<String> privateNames = new ArrayList<>();
        for (Method method : RomanCalendar.class.getDeclaredMethods()) {
            if (Modifier.isPrivate(method.getModifiers())) {
                privateNames.add(method.getName());
                continue;
            }
            check.equal(method.getName() + "'s modifiers", method.getModifiers(), Modifier.PUBLIC);
            names.add(method.getName());
            seen.add(signature(method));
        }
        for (String name : privateNames) {
            check.no("the private " + name + " bears a public name", names.contains(name));
        }
        return seen;
    }

    private static String signature(Method method) {
        StringBuilder text = new StringBuilder(method.getName()).append('(');
        String comma = "";
        for (Class<?> type : method.getParameterTypes()) {
            text.append(comma).append(type.getName());
            comma = ",";
        }
        text.append(") ").append(method.getReturnType().getName());
        for (Class<?> exception : method.getExceptionTypes()) {
            text.append(' ').append(exception.getSimpleName().replace("Exception", ""));
        }
        return text.toString();
    }
}
