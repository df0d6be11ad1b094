import java.util.List;
import java.util.function.Function;
import java.util.function.Supplier;

/** Two offices made alike, of which one is asked for what it refuses: all that they tell is alike behind it. */
final class Twins {
    private final Due due;
    private final Supplier<SureCount> made;

    Twins(Due due, Supplier<SureCount> made) {
        this.due = due;
        this.made = made;
    }

    void changeNothing(Object want, String call, Function<SureCount, Object> refused) {
        SureCount asked = made.get();
        due.is(want, call, () -> refused.apply(asked));
        List<String> without = Told.all(made.get());
        List<String> behind = Told.all(asked);
        due.is(without.size(), "how much is told behind " + call, behind::size);
        for (int i = 0; i < Math.min(without.size(), behind.size()); i++) {
            String line = behind.get(i);
            due.is(without.get(i), "behind " + call, () -> line);
        }
    }

    void noSuchElement(String call, Function<SureCount, Object> refused) {
        changeNothing("throws.NoSuchElementException", call, refused);
    }

    void illegalArgument(String call, Function<SureCount, Object> refused) {
        changeNothing("throws.IllegalArgumentException", call, refused);
    }

    void illegalState(String call, Function<SureCount, Object> refused) {
        changeNothing("throws.IllegalStateException", call, refused);
    }
}
