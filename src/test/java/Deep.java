import java.util.ArrayList;
import java.util.List;
import java.util.function.Consumer;
import java.util.function.Supplier;
import java.util.function.ToIntFunction;

/**
 * All that an object holds, also what no call tells at once (the letters of THE TEXT, the IMAGES, what can be
 * UNDONE): each probe uses up an object of its own, so that none comes near its 512th call.
 */
final class Deep {
    private Deep() {
    }

    static Supplier<BannedRows> made(Consumer<BannedRows> calls) {
        return () -> {
            BannedRows x = new BannedRows();
            calls.accept(x);
            return x;
        };
    }

    static List<String> of(Supplier<BannedRows> maker) {
        List<String> all = new ArrayList<>(ofHeld(maker));
        for (int image = 0; image <= 1; image++) {
            BannedRows x = maker.get();
            all.add("back(" + image + ") " + x.back(image) + ": " + View.of(x));
        }
        for (String more : List.of("", ";", "1;", "p")) {
            BannedRows x = maker.get();
            View.type(x, more);
            all.add("\"" + more + "\" tells() " + x.tells() + ": " + View.of(x));
        }
        return all;
    }

    /** All but THE TEXT's letters and the IMAGES. */
    static List<String> ofHeld(Supplier<BannedRows> maker) {
        List<String> all = new ArrayList<>();
        for (int times = 0; times <= 7; times++) {
            BannedRows x = maker.get();
            StringBuilder answers = new StringBuilder();
            for (int i = 0; i < times; i++) {
                answers.append(x.undo()).append(' ');
            }
            all.add("undo() " + answers + ": " + View.of(x));
        }
        BannedRows x = maker.get();
        StringBuilder sent = new StringBuilder();
        for (int i = 0; i < 26; i++) {
            sent.append(x.sends(i & 1)).append(' ');
        }
        all.add("sends() " + sent + ": " + View.of(x));
        return all;
    }

    static void same(Check check, String what, List<String> got, List<String> want) {
        check.due(what + ": probes", got.size(), want.size());
        for (int i = 0; i < Math.min(got.size(), want.size()); i++) {
            check.same(what, got.get(i), want.get(i));
        }
    }

    /** A call that answers so and changes nothing at all, behind these calls on a new object. */
    static void unchanged(Check check, String what, Consumer<BannedRows> calls, ToIntFunction<BannedRows> call,
            int want) {
        BannedRows once = made(calls).get();
        check.due(what, call.applyAsInt(once), want);
        List<String> without = of(made(calls));
        List<String> with = of(made(calls.andThen(call::applyAsInt)));
        same(check, what + " changes nothing", with, without);
    }
}
