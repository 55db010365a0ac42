import java.lang.reflect.Member;
import java.lang.reflect.Modifier;
import java.util.ArrayList;
import java.util.Arrays;
import java.util.Collections;
import java.util.List;

/** The public face is the document's, and nothing else of the class can be seen. */
public final class FaceTest {
    private static final String[] FACE = {
        "public boolean FrameQueries.clear(int)",
        "public boolean FrameQueries.filter(int,int,int)",
        "public boolean FrameQueries.frame(int,boolean,int,int)",
        "public boolean FrameQueries.insert(int,int,int,int,int)",
        "public boolean FrameQueries.isNull(int,int)",
        "public boolean FrameQueries.join(int,int)",
        "public boolean FrameQueries.order(int,boolean)",
        "public boolean FrameQueries.over(int,int,int,boolean)",
        "public int FrameQueries.cell(int,int)",
        "public int FrameQueries.held()",
        "public int FrameQueries.rows(int)",
        "public int FrameQueries.run()",
        "public int FrameQueries.sorts()",
        "public int FrameQueries.transfers()",
        "public int FrameQueries.window(int,int,int)",
        "public void FrameQueries.query()",
        "public FrameQueries(int)",
        "public static final int FrameQueries.NONE",
        "public static final int FrameQueries.OVERFLOW",
        "public static final int FrameQueries.ROOM",
    };

    public static void main(String[] args) {
        Check.due("NONE", FrameQueries.NONE, -1);
        Check.due("ROOM", FrameQueries.ROOM, -2);
        Check.due("OVERFLOW", FrameQueries.OVERFLOW, -3);
        Check.yes("the class is public", Modifier.isPublic(FrameQueries.class.getModifiers()));
        Check.yes("the class is final", Modifier.isFinal(FrameQueries.class.getModifiers()));
        List<String> seen = new ArrayList<>();
        addVisible(seen, FrameQueries.class.getDeclaredMethods());
        addVisible(seen, FrameQueries.class.getDeclaredConstructors());
        addVisible(seen, FrameQueries.class.getDeclaredFields());
        List<String> due = new ArrayList<>(Arrays.asList(FACE));
        Collections.sort(seen);
        Collections.sort(due);
        Check.yes("the face is " + seen, seen.equals(due));
        Check.end();
    }

    private static void addVisible(List<String> seen, Member[] members) {
        for (Member member : members) {
            if (!Modifier.isPrivate(member.getModifiers()) && !member.isSynthetic()) {
                seen.add(member.toString());
            }
        }
    }
}
