import java.lang.reflect.Method;
import java.util.List;
import java.util.Set;
import java.util.TreeSet;

/** Each promise has tests of its boundary cases that bear its number. */
final class EveryPromiseTest {
    private static final int PROMISES = 31;
    private static final List<Class<?>> BOUNDARIES = List.of(BoundarySettingsTest.class, BoundarySecondsTest.class,
            BoundaryBatchTest.class, BoundaryValuesTest.class, BoundaryRecordsTest.class,
            BoundaryUndoDigestTest.class);

    private EveryPromiseTest() {
    }

    public static void main(String[] args) {
        Set<Integer> numbers = new TreeSet<>();
        for (Class<?> tests : BOUNDARIES) {
            for (Method method : Suite.testsOf(tests)) {
                numbers.add(Suite.promiseOf(method));
            }
        }
        for (int promise = 1; promise <= PROMISES; promise++) {
            Checks.yes("promise " + promise + " has a test", numbers.contains(promise));
        }
        Checks.same("numbers that are none of a promise", numbers.size(), PROMISES);
        Checks.end();
    }
}
