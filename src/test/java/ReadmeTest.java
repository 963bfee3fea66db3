/** The calls that README.md shows answer what stands beside them there. */
public final class ReadmeTest {
    private static final Check check = new Check();

    public static void main(String[] args) {
        Deeprows store = new Deeprows();
        int ints = store.make(0, 2);
        check.due("make(0, 2)", ints, 0);
        check.due("its text", store.text(ints), "[0, 0]");
        check.due("setAll", store.setAll(ints, 5, 2, -1), 2);
        check.due("its text", store.text(ints), "[5, 7]");
        int things = store.make(4, 2);
        check.due("make(4, 2)", things, 1);
        check.due("its text", store.text(things), "[null, null]");
        check.due("hang", store.hang(things, 0, ints), 2);
        check.due("say", store.say(things, 1, 7), things);
        check.due("text", store.text(things), "[[5, 7], ab]");
        int twin = store.deepTwin(things);
        check.due("deepTwin", twin, 3);
        check.due("what hangs in it", store.at(twin, 0), 2);
        check.due("isDeep", store.isDeep(things, twin), true);
        check.due("isFlat", store.isFlat(things, twin), false);
        check.due("differ", store.differ(things, twin), 0);
        check.due("setAll that refuses", store.setAll(ints, 5, 2, 1), -9);
        check.due("its text", store.text(ints), "[5, 7]");
        check.due("drop", store.drop(), 3);
        check.end();
    }
}
