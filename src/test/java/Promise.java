/** One promise of the document: the tests of its sentences, collected for one answer. */
final class Promise {
    final Due due = new Due();
    private final String name;

    Promise(String name) {
        this.name = name;
    }

    Edge says(String sentence) {
        return new Edge(due, told(sentence));
    }

    String told(String sentence) {
        return name + ", \"" + sentence + "\"";
    }

    /** Ends the program with 1 if an answer was wrong. */
    void end() {
        due.end();
    }
}
