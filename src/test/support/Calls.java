/** The calls of the class by their names, so that a test can make them on the class and on the model. */
final class Calls {
    static final String[] NAMES = {"letters", "word", "feed", "tableau", "bare", "of", "row", "taken",
        "signs", "act", "acts", "highest", "all", "stands", "way", "pair", "insert", "record", "alike", "count",
        "together", "worth", "worthOf", "seed", "lot", "sheet", "put", "item", "copy", "lay", "take", "many",
        "keep", "again"};

    static int answer(RaisedTableaux x, String name, int[] a, long eight) {
        return switch (name) {
            case "letters" -> x.letters(a[0]);
            case "word" -> x.word(a[0], a[1]);
            case "feed" -> x.feed(eight, a[0]);
            case "tableau" -> x.tableau(a[0]);
            case "bare" -> x.bare(a[0]);
            case "of" -> x.of(a[0], a[1]);
            case "row" -> x.row(a[0], a[1]);
            case "taken" -> x.taken(a[0], a[1]);
            case "signs" -> x.signs(a[0], a[1], a[2]);
            case "act" -> x.act(a[0], a[1], a[2], a[3]);
            case "acts" -> x.acts(a[0]);
            case "highest" -> x.highest(a[0], a[1]);
            case "all" -> x.all(a[0], a[1]);
            case "stands" -> x.stands(a[0]);
            case "way" -> x.way(a[0]);
            case "pair" -> x.pair(a[0], a[1], a[2]);
            case "insert" -> x.insert(a[0], a[1]);
            case "record" -> x.record(a[0], a[1]);
            case "alike" -> x.alike(a[0], a[1]);
            case "count" -> x.count(a[0], a[1]);
            case "together" -> x.together(a[0], a[1], a[2]);
            case "worth" -> x.worth(a[0], a[1]);
            case "worthOf" -> x.worthOf(a[0]);
            case "seed" -> x.seed(a[0]);
            case "lot" -> x.lot(a[0], a[1]);
            case "sheet" -> x.sheet(a[0], a[1], a[2]);
            case "put" -> x.put(a[0], a[1], a[2]);
            case "item" -> x.item(a[0], a[1], a[2]);
            case "copy" -> x.copy(a[0], a[1], a[2], a[3], a[4]);
            case "lay" -> x.lay(a[0], a[1], a[2]);
            case "take" -> x.take(a[0], a[1], a[2], a[3]);
            case "many" -> x.many(a[0]);
            case "keep" -> x.keep();
            default -> x.again();
        };
    }

    private Calls() {
    }
}
