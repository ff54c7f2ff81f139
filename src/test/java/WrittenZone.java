import java.util.ArrayList;
import java.util.List;

/** A zone that is made anew, as zone 0, on as many desks as a test needs: none is used for more than 512 calls. */
final class WrittenZone {
    private final PlainZone plain;
    private final List<Edge.Asked> calls = new ArrayList<>();

    WrittenZone(int first) {
        plain = new PlainZone(first);
        calls.add(desk -> desk.zone(0, first));
    }

    void change(long moment, int offset) {
        plain.change(moment, offset);
        calls.add(desk -> desk.change(0, moment, offset));
    }

    void rule(int month, int day, int week, int second, int offset) {
        plain.rule(month, day, week, second, offset);
        calls.add(desk -> desk.rule(0, month, day, week, second, offset));
    }

    PlainZone plain() {
        return plain;
    }

    TimeDesk desk() {
        TimeDesk desk = new TimeDesk();
        for (Edge.Asked call : calls) {
            Check.due("what makes the zone is taken", call.on(desk), true);
        }
        return desk;
    }
}
