import java.lang.reflect.InvocationTargetException;
import java.lang.reflect.Method;
import java.util.ArrayList;
import java.util.Comparator;
import java.util.List;
import java.util.stream.Collectors;
import java.util.stream.Stream;

/**
 * Each boundary case that the document names, a test of its own: p05_.. is one of promise 5, terms2_.. one of
 * the second of the 'Terms' (terms0_ of what stands ahead of the first). Each is gone on new objects and on objects
 * that are near their 512th call. Arguments: only cases with one of them in the name.
 */
public final class EdgesTest {
    private static final int PROMISES = 45;
    private static final int TERMS = 3;
    private static final List<Class<?>> ALL = List.of(EdgesOfTerms.class, EdgesOfRanks.class, EdgesOfTrembling.class,
            EdgesOfMonths.class, EdgesOfGifts.class, EdgesOfPlots.class, EdgesOfTexts.class, EdgesOfSheets.class,
            EdgesOfImages.class);

    public static void main(String[] args) throws Exception {
        List<Method> cases = new ArrayList<>();
        for (Class<?> c : ALL) {
            Stream.of(c.getDeclaredMethods()).filter(m -> m.getName().matches("(p\\d\\d|terms\\d)_\\w+"))
                    .sorted(Comparator.comparing(Method::getName)).forEach(cases::add);
        }
        List<String> refused = EarlierLife.refused();
        refused.forEach(call -> System.out.println("in the earlier life " + call));
        int gone = 0;
        int failed = 0;
        for (Method m : cases) {
            if (args.length == 0 || Stream.of(args).anyMatch(m.getName()::contains)) {
                gone++;
                failed += isGood(m) ? 0 : 1;
            }
        }
        List<String> bare = bare(cases);
        bare.forEach(name -> System.out.println("no case of " + name));
        System.out.println("EdgesTest: " + (gone - failed) + " cases as due, " + failed + " not; "
                + Edge.checks + " answers and states looked at");
        if (failed + bare.size() + refused.size() != 0) {
            System.exit(1);
        }
    }

    /** Whether a case holds on new objects, and then at the end of an object's life. */
    private static boolean isGood(Method m) throws IllegalAccessException {
        return isGood(m, false) && isGood(m, true);
    }

    private static boolean isGood(Method m, boolean late) throws IllegalAccessException {
        Edge.FAULTS.clear();
        Edge.begin(late);
        int before = Edge.checks;
        try {
            m.invoke(null);
        } catch (InvocationTargetException e) {
            Edge.FAULTS.add("threw " + e.getCause());
        }
        if (Edge.checks == before) {
            Edge.FAULTS.add("nothing was looked at");
        }
        String when = late ? ", on the last of an object's 512 calls: " : ": ";
        Edge.FAULTS.forEach(fault -> System.out.println(m.getName() + when + fault));
        return Edge.FAULTS.isEmpty();
    }

    /** Promises and terms without a case. */
    private static List<String> bare(List<Method> cases) {
        List<String> heads = new ArrayList<>();
        for (int p = 1; p <= PROMISES; p++) {
            heads.add(String.format("p%02d_", p));
        }
        for (int t = 0; t <= TERMS; t++) {
            heads.add("terms" + t + "_");
        }
        return heads.stream().filter(head -> cases.stream().noneMatch(m -> m.getName().startsWith(head)))
                .collect(Collectors.toList());
    }
}
