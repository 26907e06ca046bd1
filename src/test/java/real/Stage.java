package real;

import java.util.List;

/** What the test sees of a real world; loaded once, while all that stands in Suite.java is defined anew. */
public interface Stage {
    List<Integer> notes();

    Object make(int which);

    int act(int number, int a) throws Exception;
}
