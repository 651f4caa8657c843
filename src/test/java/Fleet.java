import java.util.ArrayList;
import java.util.List;
import java.util.function.ToIntFunction;

/**
 * A RegisterFleet within the document's bound: nothing is promised of an object after its 512th
 * call. When one has had them, the next call goes to a new object, on which all was done again but
 * the looks.
 */
final class Fleet {
    static final int MOST_CALLS = 512;

    private final List<ToIntFunction<RegisterFleet>> deeds = new ArrayList<>();
    private RegisterFleet object = new RegisterFleet();
    private int calls;

    /** Another one on which the same was done. */
    Fleet twin() {
        Fleet other = new Fleet();
        other.deeds.addAll(deeds);
        other.renew();
        return other;
    }

    private void renew() {
        if (deeds.size() >= MOST_CALLS) {
            throw new IllegalStateException("the test itself needs more than 512 calls");
        }
        object = new RegisterFleet();
        for (ToIntFunction<RegisterFleet> each : deeds) {
            each.applyAsInt(object);
        }
        calls = deeds.size();
    }

    private int look(ToIntFunction<RegisterFleet> call) {
        if (calls == MOST_CALLS) {
            renew();
        }
        calls++;
        return call.applyAsInt(object);
    }

    private int deed(ToIntFunction<RegisterFleet> call) {
        int answer = look(call);
        deeds.add(call);
        return answer;
    }

    boolean begin(int servers, int set) {
        return deed(x -> x.begin(servers, set) ? 1 : 0) == 1;
    }

    int read(int c, int r) {
        return deed(x -> x.read(c, r));
    }

    int write(int c, int r, int v) {
        return deed(x -> x.write(c, r, v));
    }

    int change(int c, int set) {
        return deed(x -> x.change(c, set));
    }

    int move(int c) {
        return deed(x -> x.move(c));
    }

    int deliver(int i) {
        return deed(x -> x.deliver(i));
    }

    boolean lose(int i) {
        return deed(x -> x.lose(i) ? 1 : 0) == 1;
    }

    int run(int seed, int n) {
        return deed(x -> x.run(seed, n));
    }

    boolean stop(boolean client, int s) {
        return deed(x -> x.stop(client, s) ? 1 : 0) == 1;
    }

    int bag() {
        return look(RegisterFleet::bag);
    }

    int message(int i, int what) {
        return look(x -> x.message(i, what));
    }

    int map(boolean client, int s, int k) {
        return look(x -> x.map(client, s, k));
    }

    int cell(int s, int r, int what) {
        return look(x -> x.cell(s, r, what));
    }

    int vote(int s, int k, int what) {
        return look(x -> x.vote(s, k, what));
    }

    int client(int c, int what) {
        return look(x -> x.client(c, what));
    }

    int operation(int n, int what) {
        return look(x -> x.operation(n, what));
    }

    int count(int what) {
        return look(x -> x.count(what));
    }

    int atomic(int r) {
        return look(x -> x.atomic(r));
    }
}
