import java.lang.reflect.InvocationTargetException;
import java.lang.reflect.Method;
import java.util.ArrayList;
import java.util.List;

/**
 * Long runs of calls, each made on the class and on the model, with all answers compared. The calls are drawn from a
 * fixed sequence of numbers, so that every run of the test is the same.
 */
public final class ModelTest {

    /** How the calls of one run are drawn. */
    private record Shape(String name, int resources, int greatestCapacity, int bitsOfMask, int wrongInHundred) {
    }

    private static final List<Shape> SHAPES = List.of(
            new Shape("narrow", 6, 1, 2, 3),
            new Shape("mixed", 5, 2, 3, 3),
            new Shape("broad", 4, 4, 4, 3),
            new Shape("long", 9, 1, 2, 1),
            new Shape("wrong", 3, 2, 2, 40));
    private static final int RUNS_OF_A_SHAPE = 250;
    /** With its looks, 8 calls each: the document promises nothing after the 512th. */
    private static final int CHANGES = 64;
    private static final int LOOKS = 6;
    private static final List<String> LOOKED_AT = List.of("resourceCount", "arrivedCount", "assignedCount",
            "waitingCount", "assignedOf", "load", "state", "resourceOf", "movesOf", "moveCount", "movedRequest",
            "movedTo", "movesNeeded", "movesNeeded", "movesNeeded", "greatestPossible", "greatestPossible", "gainBy",
            "gainBy", "gainBy", "fairness");

    private static final Check CHECK = new Check("ModelTest");

    private final MatchingService real = new MatchingService();
    private final Model model = new Model();
    private final Shape shape;
    private final StringBuilder story = new StringBuilder();
    private final Draw draw;

    private ModelTest(Shape shape, int run) {
        this.shape = shape;
        this.draw = new Draw(run * 7919L + shape.name.hashCode());
    }

    public static void main(String[] args) {
        for (Shape shape : SHAPES) {
            for (int run = 0; run < RUNS_OF_A_SHAPE && !CHECK.hasWrong(); run++) {
                new ModelTest(shape, run).run();
            }
        }
        CHECK.end();
    }

    private void run() {
        for (int i = 0; i < CHANGES && !CHECK.hasWrong(); i++) {
            change();
            both("digest");
            for (int look = 0; look < LOOKS; look++) {
                look(LOOKED_AT.get(draw.below(LOOKED_AT.size())));
            }
        }
    }

    private void change() {
        int resources = model.resourceCount();
        int kind = draw.below(100);
        if (resources < 2 || (kind < 8 && resources < shape.resources)) {
            both("addResource", number(0, shape.greatestCapacity));
        } else if (kind < 45) {
            both("arrive", number(0, 3), mask());
        } else if (kind < 60) {
            both("depart", request());
        } else if (kind < 72) {
            both("setAccepts", request(), mask());
        } else if (kind < 84) {
            both("setCapacity", number(0, resources - 1), number(0, shape.greatestCapacity));
        } else if (kind < 94) {
            both("setGroup", number(0, 3), draw.below(3) == 0 ? number(0, 4) : number(0, 40), number(1, 10));
        } else {
            both("setLimits", number(0, 5), number(0, draw.below(2) == 0 ? 2 : 20));
        }
    }

    private void look(String name) {
        switch (name) {
            case "assignedOf" -> both(name, number(0, 3));
            case "load" -> both(name, number(0, model.resourceCount() - 1));
            case "movedRequest", "movedTo" -> both(name, number(0, model.moveCount() - 1));
            case "state", "resourceOf", "movesOf", "movesNeeded", "gainBy" -> both(name, request());
            default -> both(name);
        }
    }

    private int request() {
        return number(0, model.arrivedCount() - 1);
    }

    private void both(String name, int... arguments) {
        Object due = answer(model, name, arguments);
        Object got = answer(real, name, arguments);
        String call = name + List.of(boxed(arguments));
        if (due.equals(got)) {
            CHECK.due(call, due, () -> got);
        } else {
            CHECK.due(shape.name + ", after" + story + ": " + call, due, () -> got);
        }
        if (name.matches("add.*|set.*|arrive|depart")) {
            story.append(' ').append(call);
        }
    }

    private static Integer[] boxed(int[] numbers) {
        Integer[] boxed = new Integer[numbers.length];
        for (int i = 0; i < numbers.length; i++) {
            boxed[i] = numbers[i];
        }
        return boxed;
    }

    private static Object answer(Object target, String name, int[] arguments) {
        Class<?>[] types = new Class<?>[arguments.length];
        List<Object> values = new ArrayList<>();
        for (int i = 0; i < arguments.length; i++) {
            types[i] = int.class;
            values.add(arguments[i]);
        }
        try {
            Method method = target.getClass().getDeclaredMethod(name, types);
            return method.invoke(target, values.toArray());
        } catch (InvocationTargetException e) {
            return e.getCause().getClass();
        } catch (ReflectiveOperationException e) {
            return e;
        }
    }

    private int number(int least, int greatest) {
        if (draw.below(100) >= shape.wrongInHundred) {
            return greatest < least ? least : least + draw.below(greatest - least + 1);
        }
        int[] wrong = {least - 1, greatest + 1, 41, 12, Integer.MIN_VALUE, Integer.MAX_VALUE, least, greatest};
        return wrong[draw.below(wrong.length)];
    }

    private int mask() {
        int all = (1 << model.resourceCount()) - 1;
        if (draw.below(100) < shape.wrongInHundred) {
            int[] wrong = {-1, all + 1, Integer.MIN_VALUE, Integer.MAX_VALUE, 0, all, 1 << 12, 1 << 30};
            return wrong[draw.below(wrong.length)];
        }
        int mask = 0;
        for (int i = 0; i < shape.bitsOfMask; i++) {
            mask |= 1 << draw.below(model.resourceCount());
        }
        return mask;
    }
}
