import java.util.Set;
import java.util.TreeSet;

/** The bounds that the document names, sentence by sentence; and that none of its sentences is left out. */
final class EdgesTest {
    public static void main(String[] args) {
        Check c = new Check("EdgesTest");
        new EdgesOfDescription(c).run();
        new EdgesOfRows(c).run();
        new EdgesOfSorting(c).run();
        new EdgesOfSeveralRows(c).run();
        new EdgesOfAsked(c).run();
        new EdgesOfWhole(c).run();
        Set<String> document = Document.sentences();
        c.promise(0);
        c.same("sentences that no test names", without(document, c.sentences()), Set.of());
        c.same("sentences that the document does not have", without(c.sentences(), document), Set.of());
        c.end();
    }

    private static Set<String> without(Set<String> all, Set<String> some) {
        Set<String> rest = new TreeSet<>(all);
        rest.removeAll(some);
        return rest;
    }
}
