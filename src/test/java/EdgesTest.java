/**
 * All promises: the boundary cases (too small, too large, empty, full, round the ring, a refused call). Each test names
 * its promise and the words of the document that it is for.
 */
public final class EdgesTest {
    private EdgesTest() {
    }

    public static void main(String[] args) {
        EdgesText.run();
        EdgesFaults.run();
        EdgesNow.run();
        EdgesTurns.run();
        EdgesCountries.run();
        EdgesBead.run();
        EdgesPeople.run();
        EdgesTwo.run();
        EdgesActs.run();
        Check.allPromisesWereNamed(56);
        Check.end();
    }
}
