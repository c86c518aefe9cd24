/** Promises 1 to 3: a new object, feed and end. */
final class TextsTest {
    public static void main(String[] args) {
        newObject();
        System.exit(House.ending());
    }

    private static void newObject() {
        House h = new House("new");
        for (int what = 0; what <= 10; what++) {
            h.due("count(" + what + ")", h.x.count(what), 0);
        }
        h.due("fault(0)", h.x.fault(0), -2);
    }
}
