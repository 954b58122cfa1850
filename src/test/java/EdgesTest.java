import java.io.IOException;

/**
 * Each sentence of the document that names a boundary case, with a test of its own: it quotes the sentence, and calls
 * at the boundary and at both sides of it. Words of the document that name one and are quoted by no test are told.
 */
public final class EdgesTest {
    private EdgesTest() {
    }

    public static void main(String[] args) throws IOException {
        Edge e = new Edge();
        new DishEdges(e).all();
        new RowDishEdges(e).all();
        new LawEdges(e).all();
        new ThoughtEdges(e).all();
        new GuestEdges(e).all();
        new ToldEdges(e).all();
        new DeedEdges(e).all();
        new ActEdges(e).all();
        new ShelfEdges(e).all();
        new AnswerEdges(e).all();
        e.finish();
    }
}
