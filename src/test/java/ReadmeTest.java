/** The calls that README.md shows, with the answers that it tells. */
public final class ReadmeTest extends PileChecks {
    private ReadmeTest() {
    }

    public static void main(String[] args) {
        firstExample();
        textExample();
        Dues.end();
    }

    private static void firstExample() {
        ReturnPile pile = new ReturnPile();
        due("begin(3)", pile.begin(3), 8);
        due("call(0, 100)", pile.call(0, 100), 0);
        due("call(1, 101)", pile.call(1, 101), 1);
        due("tail(7)", pile.tail(7), 1);
        due("ret()", pile.ret(), 0);
        due("undo()", pile.undo(), 4);
        due("call(2, 102)", pile.call(2, 102), 2);
        due("call(3, 103)", pile.call(3, 103), 3);
        due("slot 0 has the entry of call 3", pile.slot(0, 0), 3);
        due("ahead(4, 1)", pile.ahead(4, 1), 1);
        due("missesWith(2)", pile.missesWith(2), 0);
    }

    private static void textExample() {
        ReturnPile pile = sized(3);
        append(pile, "c1@100 c2@200 t3 r x1");
        due("run()", pile.run(), 5);
        due("undo()", pile.undo(), 1);
        due("steps", pile.count(1), 0);
    }
}
