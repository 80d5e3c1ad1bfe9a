/** The answers that one sentence of the document asks for; a wrong one is told with the promise and the sentence. */
final class Edge {
    private static final Check check = new Check();
    private final String name;

    private Edge(String name) {
        this.name = name;
    }

    /** A test of a promise: the words stand in the promise itself or in the terms, as they are here. */
    static Edge of(int promise, String words) {
        check.due("the document says \"" + words + "\"", Document.sectionThatSays(promise, words) < 0 ? 0 : 1, 1);
        return new Edge("Promise " + promise + ", \"" + words + "\": ");
    }

    void due(String call, long got, long want) {
        check.due(name + call, got, want);
    }

    /** Ends the test: with exit code 1 if an answer was wrong. */
    static void end() {
        check.end();
    }
}
