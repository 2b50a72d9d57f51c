import java.util.LinkedHashMap;
import java.util.Map;
import java.util.Set;
import java.util.function.Consumer;
import java.util.function.Function;
import java.util.function.Supplier;

/** Holds an object with some calls against one without them: all that they tell is the same. */
final class Unchanged {
    private static final Map<String, Function<VegetableBouncer, String>> PARTS = parts();

    private Unchanged() {
    }

    private static Map<String, Function<VegetableBouncer, String>> parts() {
        Map<String, Function<VegetableBouncer, String>> parts = new LinkedHashMap<>();
        parts.put("state", Told::state);
        parts.put("history", Told::history);
        parts.put("slots", Told::slots);
        parts.put("output", Told::output);
        parts.put("error", Told::error);
        parts.put("buffer", Told::buffer);
        return parts;
    }

    /** The call throws what is due, and changes nothing. */
    static void refused(String what, Class<? extends RuntimeException> due, Supplier<VegetableBouncer> maker,
            Consumer<VegetableBouncer> call) {
        VegetableBouncer x = maker.get();
        Check.refuses(what, due, () -> call.accept(x));
        but(Set.of(), what, maker, y -> carryOn(y, call));
    }

    /** What a refused call throws is looked at in refused(); here only what it leaves counts. */
    private static void carryOn(VegetableBouncer x, Consumer<VegetableBouncer> call) {
        try {
            call.accept(x);
        } catch (RuntimeException refused) {
            return;
        }
    }

    static void refusedNumber(String what, Supplier<VegetableBouncer> maker, Consumer<VegetableBouncer> call) {
        refused(what, IndexOutOfBoundsException.class, maker, call);
    }

    static void refusedArgument(String what, Supplier<VegetableBouncer> maker, Consumer<VegetableBouncer> call) {
        refused(what, IllegalArgumentException.class, maker, call);
    }

    static void refusedNow(String what, Supplier<VegetableBouncer> maker, Consumer<VegetableBouncer> call) {
        refused(what, IllegalStateException.class, maker, call);
    }

    static void by(String what, Supplier<VegetableBouncer> maker, Consumer<VegetableBouncer> calls) {
        but(Set.of(), what, maker, calls);
    }

    static void but(Set<String> spared, String what, Supplier<VegetableBouncer> maker,
            Consumer<VegetableBouncer> calls) {
        for (String part : PARTS.keySet()) {
            if (!spared.contains(part)) {
                VegetableBouncer called = maker.get();
                calls.accept(called);
                Function<VegetableBouncer, String> told = PARTS.get(part);
                Check.same(what + " leaves the " + part, told.apply(called), told.apply(maker.get()));
            }
        }
    }
}
