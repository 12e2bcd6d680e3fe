/** All that calls which change nothing tell of an object, as one text. */
final class View {
    private View() {
    }

    static String of(BannedRows x) {
        StringBuilder all = new StringBuilder();
        for (int what = 0; what <= 12; what++) {
            all.append(x.count(what)).append(' ');
        }
        for (int state = 0; state < x.count(0); state++) {
            all.append('|').append(x.step(state, 0)).append(' ').append(x.step(state, 1));
            all.append(' ').append(x.state(state, 0)).append(' ').append(x.state(state, 1));
        }
        for (int i = 0; i < x.count(8); i++) {
            all.append('/');
            for (int what = 0; what <= 3; what++) {
                all.append(x.word(i, what)).append(' ');
            }
        }
        all.append(x.which(0)).append(' ').append(x.which(1)).append(' ').append(x.ask());
        return all.toString();
    }

    static void type(BannedRows x, String text) {
        for (int i = 0; i < text.length(); i++) {
            x.type(text.charAt(i));
        }
    }

    /** A new object that was told a text. */
    static BannedRows told(String text) {
        BannedRows x = new BannedRows();
        type(x, text);
        x.tells();
        return x;
    }
}
