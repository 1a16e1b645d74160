/** What an object shows of itself, as a text: two that are alike show that nothing was changed. */
final class Snapshot {
    private Snapshot() {
    }

    static String of(CairnIndex index) {
        StringBuilder text = new StringBuilder();
        text.append(index.digest()).append(' ').append(index.things()).append(' ').append(index.area());
        boolean more = true;
        for (int layer = 0; more && layer < 4; layer++) {
            try {
                text.append(' ').append(index.fullness(layer));
            } catch (IndexOutOfBoundsException e) {
                more = false;
            }
        }
        return text.toString();
    }
}
