import java.lang.reflect.Method;
import java.util.Set;
import java.util.TreeSet;

/** Each promise has a boundary test that bears its number, and no two tests hold the class to the same words. */
public final class SentencesTest {
    private static final Class<?>[] TESTS = {TextEdgesTest.class, LandEdgesTest.class, ActEdgesTest.class, RestEdgesTest.class};
    private static final int PROMISES = 50;

    public static void main(String[] args) {
        Desk desk = new Desk();
        Set<String> sentences = new TreeSet<>();
        boolean[] told = new boolean[PROMISES + 1];
        for (Class<?> test : TESTS) {
            for (Method m : test.getDeclaredMethods()) {
                Sentence sentence = m.getAnnotation(Sentence.class);
                if (sentence == null) {
                    continue;
                }
                desk.due("told once: " + sentence.value(), sentences.add(sentence.value()), true);
                String[] parts = sentence.value().split(": ", 2);
                if (parts[0].matches("\\d+")) {
                    told[Integer.parseInt(parts[0])] = true;
                }
            }
        }
        for (int promise = 1; promise <= PROMISES; promise++) {
            desk.due("promise " + promise + " has a test of its own", told[promise], true);
        }
        desk.finish("SentencesTest");
    }
}
