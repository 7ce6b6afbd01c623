import java.io.IOException;

/**
 * Each sentence of the document that names a boundary case, by its part and its words, with a test
 * of its own; and that no sentence of those parts is left without one.
 */
final class EdgesTest {
    private EdgesTest() {
    }

    public static void main(String[] args) throws IOException {
        Sentences.read();
        TermEdges.all();
        RuleEdges.all();
        RowEdges.all();
        PeopleEdges.all();
        TextEdges.all();
        LookEdges.all();
        WhatWouldBeEdges.all();
        Sentences.end();
        Check.end("EdgesTest");
    }
}
