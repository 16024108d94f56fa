/-! The class: worlds over one numbering -/
def xwW (sk : Value) (a : Nat → Nat) (t : Nat → ClassId) (i : Nat → Int32) (q : Int64) (c : Nat → Nat → Int32) (d : Nat → Nat → Int64) : va_W := [(a 104, .inr (10, [.ref (a 105), .ref (a 106), .ref (a 107), .ref (a 108), .ref (a 109), .int (i 110), .int (i 111)])), (a 105, .inl (t 105, 24, .inl (c 105))), (a 106, .inl (t 106, 24, .inl (c 106))), (a 107, .inl (t 107, 144, .inl (c 107))), (a 108, .inl (t 108, 30, .inl (c 108))), (a 109, .inl (t 109, 30, .inl (c 109)))]
def xtW (t : Nat → ClassId) : List (ClassId × FieldType) := [(t 105, .int), (t 106, .int), (t 107, .int), (t 108, .int), (t 109, .int)]
def xwP0 (sk : Value) (a : Nat → Nat) (t : Nat → ClassId) (i : Nat → Int32) (q : Int64) (c : Nat → Nat → Int32) (d : Nat → Nat → Int64) : va_W := [(a 126, .inr (6, [.ref (a 104), .ref (a 127)])), (a 127, .inl (t 127, 30, .inl (c 127)))]
def xtP0 (t : Nat → ClassId) : List (ClassId × FieldType) := [(t 127, .int)]
def xwP1 (sk : Value) (a : Nat → Nat) (t : Nat → ClassId) (i : Nat → Int32) (q : Int64) (c : Nat → Nat → Int32) (d : Nat → Nat → Int64) : va_W := [(a 149, .inr (6, [.ref (a 104), .ref (a 150)])), (a 150, .inl (t 150, 30, .inl (c 150)))]
def xtP1 (t : Nat → ClassId) : List (ClassId × FieldType) := [(t 150, .int)]
def xwP2 (sk : Value) (a : Nat → Nat) (t : Nat → ClassId) (i : Nat → Int32) (q : Int64) (c : Nat → Nat → Int32) (d : Nat → Nat → Int64) : va_W := [(a 178, .inr (6, [.ref (a 104), .ref (a 179)])), (a 179, .inl (t 179, 30, .inl (c 179)))]
def xtP2 (t : Nat → ClassId) : List (ClassId × FieldType) := [(t 179, .int)]
def xwQ0 (sk : Value) (a : Nat → Nat) (t : Nat → ClassId) (i : Nat → Int32) (q : Int64) (c : Nat → Nat → Int32) (d : Nat → Nat → Int64) : va_W := [(a 126, .inr (6, [.ref (a 104), .ref (a 127)])), (a 127, .inl (t 127, 30, .inl (c 127))), (a 104, .inr (10, [.ref (a 105), .ref (a 106), .ref (a 107), .ref (a 108), .ref (a 109), .int (i 110), .int (i 111)])), (a 105, .inl (t 105, 24, .inl (c 105))), (a 106, .inl (t 106, 24, .inl (c 106))), (a 107, .inl (t 107, 144, .inl (c 107))), (a 108, .inl (t 108, 30, .inl (c 108))), (a 109, .inl (t 109, 30, .inl (c 109)))]
def xtQ0 (t : Nat → ClassId) : List (ClassId × FieldType) := [(t 127, .int), (t 105, .int), (t 106, .int), (t 107, .int), (t 108, .int), (t 109, .int)]
def xwQ1 (sk : Value) (a : Nat → Nat) (t : Nat → ClassId) (i : Nat → Int32) (q : Int64) (c : Nat → Nat → Int32) (d : Nat → Nat → Int64) : va_W := [(a 149, .inr (6, [.ref (a 104), .ref (a 150)])), (a 150, .inl (t 150, 30, .inl (c 150))), (a 104, .inr (10, [.ref (a 105), .ref (a 106), .ref (a 107), .ref (a 108), .ref (a 109), .int (i 110), .int (i 111)])), (a 105, .inl (t 105, 24, .inl (c 105))), (a 106, .inl (t 106, 24, .inl (c 106))), (a 107, .inl (t 107, 144, .inl (c 107))), (a 108, .inl (t 108, 30, .inl (c 108))), (a 109, .inl (t 109, 30, .inl (c 109)))]
def xtQ1 (t : Nat → ClassId) : List (ClassId × FieldType) := [(t 150, .int), (t 105, .int), (t 106, .int), (t 107, .int), (t 108, .int), (t 109, .int)]
def xwQ2 (sk : Value) (a : Nat → Nat) (t : Nat → ClassId) (i : Nat → Int32) (q : Int64) (c : Nat → Nat → Int32) (d : Nat → Nat → Int64) : va_W := [(a 178, .inr (6, [.ref (a 104), .ref (a 179)])), (a 179, .inl (t 179, 30, .inl (c 179))), (a 104, .inr (10, [.ref (a 105), .ref (a 106), .ref (a 107), .ref (a 108), .ref (a 109), .int (i 110), .int (i 111)])), (a 105, .inl (t 105, 24, .inl (c 105))), (a 106, .inl (t 106, 24, .inl (c 106))), (a 107, .inl (t 107, 144, .inl (c 107))), (a 108, .inl (t 108, 30, .inl (c 108))), (a 109, .inl (t 109, 30, .inl (c 109)))]
def xtQ2 (t : Nat → ClassId) : List (ClassId × FieldType) := [(t 179, .int), (t 105, .int), (t 106, .int), (t 107, .int), (t 108, .int), (t 109, .int)]
def xwB (sk : Value) (a : Nat → Nat) (t : Nat → ClassId) (i : Nat → Int32) (q : Int64) (c : Nat → Nat → Int32) (d : Nat → Nat → Int64) : va_W := [(a 104, .inr (10, [.ref (a 105), .ref (a 106), .ref (a 107), .ref (a 108), .ref (a 109), .int (i 110), .int (i 111)])), (a 105, .inl (t 105, 24, .inl (c 105))), (a 106, .inl (t 106, 24, .inl (c 106))), (a 107, .inl (t 107, 144, .inl (c 107))), (a 108, .inl (t 108, 30, .inl (c 108))), (a 109, .inl (t 109, 30, .inl (c 109))), (a 112, .inr (1, [.ref (a 104), .ref (a 126), .ref (a 113), .ref (a 114), .ref (a 115), .ref (a 116), .ref (a 117), .ref (a 118), .ref (a 119), .ref (a 120), .ref (a 121), .ref (a 122), .int (i 123), .int (i 124), .int (i 125)])), (a 113, .inl (t 113, 200, .inl (c 113))), (a 114, .inl (t 114, 200, .inl (c 114))), (a 115, .inl (t 115, 200, .inl (c 115))), (a 116, .inl (t 116, 200, .inl (c 116))), (a 117, .inl (t 117, 200, .inl (c 117))), (a 118, .inl (t 118, 30, .inl (c 118))), (a 119, .inl (t 119, 300, .inl (c 119))), (a 120, .inl (t 120, 180, .inl (c 120))), (a 121, .inl (t 121, 30, .inl (c 121))), (a 122, .inl (t 122, 30, .inl (c 122))), (a 126, .inr (6, [.ref (a 104), .ref (a 127)])), (a 127, .inl (t 127, 30, .inl (c 127))), (a 128, .inr (5, [.ref (a 104), .ref (a 112), .ref (a 129), .ref (a 130), .ref (a 131), .ref (a 132), .ref (a 133), .ref (a 134), .ref (a 135), .ref (a 136), .ref (a 137)])), (a 129, .inl (t 129, 300, .inl (c 129))), (a 130, .inl (t 130, 300, .inl (c 130))), (a 131, .inl (t 131, 300, .inl (c 131))), (a 132, .inl (t 132, 300, .inl (c 132))), (a 133, .inl (t 133, 30, .inl (c 133))), (a 134, .inl (t 134, 30, .inl (c 134))), (a 135, .inl (t 135, 30, .inl (c 135))), (a 136, .inl (t 136, 30, .inl (c 136))), (a 137, .inl (t 137, 30, .inl (c 137))), (a 138, .inr (2, [.ref (a 104), .ref (a 139), .int (i 140), .int (i 141)])), (a 139, .inl (t 139, 100, .inl (c 139)))]
def xtB (t : Nat → ClassId) : List (ClassId × FieldType) := [(t 105, .int), (t 106, .int), (t 107, .int), (t 108, .int), (t 109, .int), (t 113, .int), (t 114, .int), (t 115, .int), (t 116, .int), (t 117, .boolean), (t 118, .int), (t 119, .int), (t 120, .int), (t 121, .int), (t 122, .int), (t 127, .int), (t 129, .int), (t 130, .int), (t 131, .int), (t 132, .int), (t 133, .int), (t 134, .int), (t 135, .int), (t 136, .int), (t 137, .int), (t 139, .int)]
def xwBT (sk : Value) (a : Nat → Nat) (t : Nat → ClassId) (i : Nat → Int32) (q : Int64) (c : Nat → Nat → Int32) (d : Nat → Nat → Int64) : va_W := [(a 104, .inr (10, [.ref (a 105), .ref (a 106), .ref (a 107), .ref (a 108), .ref (a 109), .int (i 110), .int (i 111)])), (a 105, .inl (t 105, 24, .inl (c 105))), (a 106, .inl (t 106, 24, .inl (c 106))), (a 107, .inl (t 107, 144, .inl (c 107))), (a 108, .inl (t 108, 30, .inl (c 108))), (a 109, .inl (t 109, 30, .inl (c 109))), (a 112, .inr (1, [.ref (a 104), .ref (a 126), .ref (a 113), .ref (a 114), .ref (a 115), .ref (a 116), .ref (a 117), .ref (a 118), .ref (a 119), .ref (a 120), .ref (a 121), .ref (a 122), .int (i 123), .int (i 124), .int (i 125)])), (a 113, .inl (t 113, 200, .inl (c 113))), (a 114, .inl (t 114, 200, .inl (c 114))), (a 115, .inl (t 115, 200, .inl (c 115))), (a 116, .inl (t 116, 200, .inl (c 116))), (a 117, .inl (t 117, 200, .inl (c 117))), (a 118, .inl (t 118, 30, .inl (c 118))), (a 119, .inl (t 119, 300, .inl (c 119))), (a 120, .inl (t 120, 180, .inl (c 120))), (a 121, .inl (t 121, 30, .inl (c 121))), (a 122, .inl (t 122, 30, .inl (c 122))), (a 126, .inr (6, [.ref (a 104), .ref (a 127)])), (a 127, .inl (t 127, 30, .inl (c 127))), (a 128, .inr (5, [.ref (a 104), .ref (a 112), .ref (a 129), .ref (a 130), .ref (a 131), .ref (a 132), .ref (a 133), .ref (a 134), .ref (a 135), .ref (a 136), .ref (a 137)])), (a 129, .inl (t 129, 300, .inl (c 129))), (a 130, .inl (t 130, 300, .inl (c 130))), (a 131, .inl (t 131, 300, .inl (c 131))), (a 132, .inl (t 132, 300, .inl (c 132))), (a 133, .inl (t 133, 30, .inl (c 133))), (a 134, .inl (t 134, 30, .inl (c 134))), (a 135, .inl (t 135, 30, .inl (c 135))), (a 136, .inl (t 136, 30, .inl (c 136))), (a 137, .inl (t 137, 30, .inl (c 137))), (a 138, .inr (2, [.ref (a 104), .ref (a 139), .int (i 140), .int (i 141)])), (a 139, .inl (t 139, 100, .inl (c 139))), (a 149, .inr (6, [.ref (a 104), .ref (a 150)])), (a 150, .inl (t 150, 30, .inl (c 150)))]
def xtBT (t : Nat → ClassId) : List (ClassId × FieldType) := [(t 105, .int), (t 106, .int), (t 107, .int), (t 108, .int), (t 109, .int), (t 113, .int), (t 114, .int), (t 115, .int), (t 116, .int), (t 117, .boolean), (t 118, .int), (t 119, .int), (t 120, .int), (t 121, .int), (t 122, .int), (t 127, .int), (t 129, .int), (t 130, .int), (t 131, .int), (t 132, .int), (t 133, .int), (t 134, .int), (t 135, .int), (t 136, .int), (t 137, .int), (t 139, .int), (t 150, .int)]
def xwBS (sk : Value) (a : Nat → Nat) (t : Nat → ClassId) (i : Nat → Int32) (q : Int64) (c : Nat → Nat → Int32) (d : Nat → Nat → Int64) : va_W := [(a 104, .inr (10, [.ref (a 105), .ref (a 106), .ref (a 107), .ref (a 108), .ref (a 109), .int (i 110), .int (i 111)])), (a 105, .inl (t 105, 24, .inl (c 105))), (a 106, .inl (t 106, 24, .inl (c 106))), (a 107, .inl (t 107, 144, .inl (c 107))), (a 108, .inl (t 108, 30, .inl (c 108))), (a 109, .inl (t 109, 30, .inl (c 109))), (a 112, .inr (1, [.ref (a 104), .ref (a 126), .ref (a 113), .ref (a 114), .ref (a 115), .ref (a 116), .ref (a 117), .ref (a 118), .ref (a 119), .ref (a 120), .ref (a 121), .ref (a 122), .int (i 123), .int (i 124), .int (i 125)])), (a 113, .inl (t 113, 200, .inl (c 113))), (a 114, .inl (t 114, 200, .inl (c 114))), (a 115, .inl (t 115, 200, .inl (c 115))), (a 116, .inl (t 116, 200, .inl (c 116))), (a 117, .inl (t 117, 200, .inl (c 117))), (a 118, .inl (t 118, 30, .inl (c 118))), (a 119, .inl (t 119, 300, .inl (c 119))), (a 120, .inl (t 120, 180, .inl (c 120))), (a 121, .inl (t 121, 30, .inl (c 121))), (a 122, .inl (t 122, 30, .inl (c 122))), (a 126, .inr (6, [.ref (a 104), .ref (a 127)])), (a 127, .inl (t 127, 30, .inl (c 127))), (a 128, .inr (5, [.ref (a 104), .ref (a 112), .ref (a 129), .ref (a 130), .ref (a 131), .ref (a 132), .ref (a 133), .ref (a 134), .ref (a 135), .ref (a 136), .ref (a 137)])), (a 129, .inl (t 129, 300, .inl (c 129))), (a 130, .inl (t 130, 300, .inl (c 130))), (a 131, .inl (t 131, 300, .inl (c 131))), (a 132, .inl (t 132, 300, .inl (c 132))), (a 133, .inl (t 133, 30, .inl (c 133))), (a 134, .inl (t 134, 30, .inl (c 134))), (a 135, .inl (t 135, 30, .inl (c 135))), (a 136, .inl (t 136, 30, .inl (c 136))), (a 137, .inl (t 137, 30, .inl (c 137))), (a 138, .inr (2, [.ref (a 104), .ref (a 139), .int (i 140), .int (i 141)])), (a 139, .inl (t 139, 100, .inl (c 139))), (a 178, .inr (6, [.ref (a 104), .ref (a 179)])), (a 179, .inl (t 179, 30, .inl (c 179)))]
def xtBS (t : Nat → ClassId) : List (ClassId × FieldType) := [(t 105, .int), (t 106, .int), (t 107, .int), (t 108, .int), (t 109, .int), (t 113, .int), (t 114, .int), (t 115, .int), (t 116, .int), (t 117, .boolean), (t 118, .int), (t 119, .int), (t 120, .int), (t 121, .int), (t 122, .int), (t 127, .int), (t 129, .int), (t 130, .int), (t 131, .int), (t 132, .int), (t 133, .int), (t 134, .int), (t 135, .int), (t 136, .int), (t 137, .int), (t 139, .int), (t 179, .int)]
def xwT (sk : Value) (a : Nat → Nat) (t : Nat → ClassId) (i : Nat → Int32) (q : Int64) (c : Nat → Nat → Int32) (d : Nat → Nat → Int64) : va_W := [(a 100, .inr (11, [.ref (a 104), .ref (a 112), .ref (a 128), .ref (a 138), .ref (a 142), .ref (a 157), .ref (a 161), sk, .ref (a 101), .int (i 102), .long q])), (a 101, .inl (t 101, 7, .inl (c 101))), (a 104, .inr (10, [.ref (a 105), .ref (a 106), .ref (a 107), .ref (a 108), .ref (a 109), .int (i 110), .int (i 111)])), (a 105, .inl (t 105, 24, .inl (c 105))), (a 106, .inl (t 106, 24, .inl (c 106))), (a 107, .inl (t 107, 144, .inl (c 107))), (a 108, .inl (t 108, 30, .inl (c 108))), (a 109, .inl (t 109, 30, .inl (c 109))), (a 112, .inr (1, [.ref (a 104), .ref (a 126), .ref (a 113), .ref (a 114), .ref (a 115), .ref (a 116), .ref (a 117), .ref (a 118), .ref (a 119), .ref (a 120), .ref (a 121), .ref (a 122), .int (i 123), .int (i 124), .int (i 125)])), (a 113, .inl (t 113, 200, .inl (c 113))), (a 114, .inl (t 114, 200, .inl (c 114))), (a 115, .inl (t 115, 200, .inl (c 115))), (a 116, .inl (t 116, 200, .inl (c 116))), (a 117, .inl (t 117, 200, .inl (c 117))), (a 118, .inl (t 118, 30, .inl (c 118))), (a 119, .inl (t 119, 300, .inl (c 119))), (a 120, .inl (t 120, 180, .inl (c 120))), (a 121, .inl (t 121, 30, .inl (c 121))), (a 122, .inl (t 122, 30, .inl (c 122))), (a 126, .inr (6, [.ref (a 104), .ref (a 127)])), (a 127, .inl (t 127, 30, .inl (c 127))), (a 128, .inr (5, [.ref (a 104), .ref (a 112), .ref (a 129), .ref (a 130), .ref (a 131), .ref (a 132), .ref (a 133), .ref (a 134), .ref (a 135), .ref (a 136), .ref (a 137)])), (a 129, .inl (t 129, 300, .inl (c 129))), (a 130, .inl (t 130, 300, .inl (c 130))), (a 131, .inl (t 131, 300, .inl (c 131))), (a 132, .inl (t 132, 300, .inl (c 132))), (a 133, .inl (t 133, 30, .inl (c 133))), (a 134, .inl (t 134, 30, .inl (c 134))), (a 135, .inl (t 135, 30, .inl (c 135))), (a 136, .inl (t 136, 30, .inl (c 136))), (a 137, .inl (t 137, 30, .inl (c 137))), (a 138, .inr (2, [.ref (a 104), .ref (a 139), .int (i 140), .int (i 141)])), (a 139, .inl (t 139, 100, .inl (c 139))), (a 142, .inr (9, [.ref (a 104), .ref (a 112), .ref (a 149), .ref (a 151), .ref (a 155), .ref (a 143), .ref (a 144), .ref (a 145), .int (i 146), .int (i 147), .int (i 148)])), (a 143, .inl (t 143, 100, .inl (c 143))), (a 144, .inl (t 144, 100, .inl (c 144))), (a 145, .inl (t 145, 100, .inl (c 145))), (a 149, .inr (6, [.ref (a 104), .ref (a 150)])), (a 150, .inl (t 150, 30, .inl (c 150))), (a 151, .inr (8, [.ref (a 104), .ref (a 128), .ref (a 149), .ref (a 152), .ref (a 153), .int (i 154)])), (a 152, .inl (t 152, 30, .inl (c 152))), (a 153, .inl (t 153, 30, .inl (c 153))), (a 155, .inr (0, [.ref (a 104), .ref (a 112), .ref (a 128), .ref (a 138), .ref (a 149), .ref (a 151), .int (i 156)])), (a 157, .inr (4, [.ref (a 158), .ref (a 159), .ref (a 160)])), (a 158, .inl (t 158, 30, .inl (c 158))), (a 159, .inl (t 159, 30, .inl (c 159))), (a 160, .inl (t 160, 360, .inr (.inl (d 160)))), (a 161, .inr (3, [.ref (a 162), .ref (a 163), .ref (a 164), .int (i 165)])), (a 162, .inl (t 162, 10, .inl (c 162))), (a 163, .inl (t 163, 10, .inl (c 163))), (a 164, .inl (t 164, 120, .inl (c 164)))]
def xtT (t : Nat → ClassId) : List (ClassId × FieldType) := [(t 101, .int), (t 105, .int), (t 106, .int), (t 107, .int), (t 108, .int), (t 109, .int), (t 113, .int), (t 114, .int), (t 115, .int), (t 116, .int), (t 117, .boolean), (t 118, .int), (t 119, .int), (t 120, .int), (t 121, .int), (t 122, .int), (t 127, .int), (t 129, .int), (t 130, .int), (t 131, .int), (t 132, .int), (t 133, .int), (t 134, .int), (t 135, .int), (t 136, .int), (t 137, .int), (t 139, .int), (t 143, .int), (t 144, .int), (t 145, .int), (t 150, .int), (t 152, .boolean), (t 153, .boolean), (t 158, .int), (t 159, .int), (t 160, .long), (t 162, .int), (t 163, .int), (t 164, .int)]
def xwS (sk : Value) (a : Nat → Nat) (t : Nat → ClassId) (i : Nat → Int32) (q : Int64) (c : Nat → Nat → Int32) (d : Nat → Nat → Int64) : va_W := [(a 104, .inr (10, [.ref (a 105), .ref (a 106), .ref (a 107), .ref (a 108), .ref (a 109), .int (i 110), .int (i 111)])), (a 105, .inl (t 105, 24, .inl (c 105))), (a 106, .inl (t 106, 24, .inl (c 106))), (a 107, .inl (t 107, 144, .inl (c 107))), (a 108, .inl (t 108, 30, .inl (c 108))), (a 109, .inl (t 109, 30, .inl (c 109))), (a 112, .inr (1, [.ref (a 104), .ref (a 126), .ref (a 113), .ref (a 114), .ref (a 115), .ref (a 116), .ref (a 117), .ref (a 118), .ref (a 119), .ref (a 120), .ref (a 121), .ref (a 122), .int (i 123), .int (i 124), .int (i 125)])), (a 113, .inl (t 113, 200, .inl (c 113))), (a 114, .inl (t 114, 200, .inl (c 114))), (a 115, .inl (t 115, 200, .inl (c 115))), (a 116, .inl (t 116, 200, .inl (c 116))), (a 117, .inl (t 117, 200, .inl (c 117))), (a 118, .inl (t 118, 30, .inl (c 118))), (a 119, .inl (t 119, 300, .inl (c 119))), (a 120, .inl (t 120, 180, .inl (c 120))), (a 121, .inl (t 121, 30, .inl (c 121))), (a 122, .inl (t 122, 30, .inl (c 122))), (a 126, .inr (6, [.ref (a 104), .ref (a 127)])), (a 127, .inl (t 127, 30, .inl (c 127))), (a 128, .inr (5, [.ref (a 104), .ref (a 112), .ref (a 129), .ref (a 130), .ref (a 131), .ref (a 132), .ref (a 133), .ref (a 134), .ref (a 135), .ref (a 136), .ref (a 137)])), (a 129, .inl (t 129, 300, .inl (c 129))), (a 130, .inl (t 130, 300, .inl (c 130))), (a 131, .inl (t 131, 300, .inl (c 131))), (a 132, .inl (t 132, 300, .inl (c 132))), (a 133, .inl (t 133, 30, .inl (c 133))), (a 134, .inl (t 134, 30, .inl (c 134))), (a 135, .inl (t 135, 30, .inl (c 135))), (a 136, .inl (t 136, 30, .inl (c 136))), (a 137, .inl (t 137, 30, .inl (c 137))), (a 138, .inr (2, [.ref (a 104), .ref (a 139), .int (i 140), .int (i 141)])), (a 139, .inl (t 139, 100, .inl (c 139))), (a 166, .inr (7, [.ref (a 104), .ref (a 178), .ref (a 180), .ref (a 184), .ref (a 167), .ref (a 168), .ref (a 169), .ref (a 170), .ref (a 171), .ref (a 172), .int (i 173), .int (i 174), .int (i 175), .int (i 176), .int (i 177)])), (a 167, .inl (t 167, 9000, .inl (c 167))), (a 168, .inl (t 168, 300, .inl (c 168))), (a 169, .inl (t 169, 1024, .inl (c 169))), (a 170, .inl (t 170, 300, .inl (c 170))), (a 171, .inl (t 171, 300, .inl (c 171))), (a 172, .inl (t 172, 300, .inl (c 172))), (a 178, .inr (6, [.ref (a 104), .ref (a 179)])), (a 179, .inl (t 179, 30, .inl (c 179))), (a 180, .inr (8, [.ref (a 104), .ref (a 128), .ref (a 178), .ref (a 181), .ref (a 182), .int (i 183)])), (a 181, .inl (t 181, 30, .inl (c 181))), (a 182, .inl (t 182, 30, .inl (c 182))), (a 184, .inr (0, [.ref (a 104), .ref (a 112), .ref (a 128), .ref (a 138), .ref (a 178), .ref (a 180), .int (i 185)]))]
def xtS (t : Nat → ClassId) : List (ClassId × FieldType) := [(t 105, .int), (t 106, .int), (t 107, .int), (t 108, .int), (t 109, .int), (t 113, .int), (t 114, .int), (t 115, .int), (t 116, .int), (t 117, .boolean), (t 118, .int), (t 119, .int), (t 120, .int), (t 121, .int), (t 122, .int), (t 127, .int), (t 129, .int), (t 130, .int), (t 131, .int), (t 132, .int), (t 133, .int), (t 134, .int), (t 135, .int), (t 136, .int), (t 137, .int), (t 139, .int), (t 167, .int), (t 168, .int), (t 169, .int), (t 170, .int), (t 171, .int), (t 172, .int), (t 179, .int), (t 181, .boolean), (t 182, .boolean)]
def xR (k : Nat) (v : Int) : Prop := match k with
  | 102 => 0 ≤ v ∧ v ≤ 6
  | 110 => 6 ≤ v ∧ v ≤ 24
  | 111 => 0 ≤ v ∧ v ≤ 30
  | 123 => 0 ≤ v ∧ v ≤ 30
  | 124 => 0 ≤ v ∧ v ≤ 200
  | 140 => 0 ≤ v ∧ v ≤ 100
  | 141 => 0 ≤ v ∧ v ≤ 1
  | 146 => 0 ≤ v ∧ v ≤ 1
  | 147 => v = -9 ∨ (0 ≤ v ∧ v ≤ 29)
  | 148 => 0 ≤ v ∧ v ≤ 100
  | 154 => 0 ≤ v ∧ v ≤ 1
  | 156 => v = -9 ∨ (0 ≤ v ∧ v ≤ 29)
  | 165 => 0 ≤ v ∧ v ≤ 10
  | 173 => v = -9 ∨ (0 ≤ v ∧ v ≤ 300)
  | 174 => 0 ≤ v ∧ v ≤ 300
  | 175 => v = -9 ∨ (0 ≤ v ∧ v ≤ 299)
  | 176 => 0 ≤ v ∧ v ≤ 29
  | 177 => 0 ≤ v ∧ v ≤ 29
  | 183 => 0 ≤ v ∧ v ≤ 1
  | 185 => v = -9 ∨ (0 ≤ v ∧ v ≤ 29)
  | _ => True
def xE (k j : Nat) (v : Int) : Prop := match k with
  | 105 => v = -9 ∨ (0 ≤ v ∧ v ≤ 23)
  | 106 => 0 ≤ v ∧ v ≤ 5
  | 107 => v = -9 ∨ (0 ≤ v ∧ v ≤ 1)
  | 108 => 0 ≤ v ∧ v ≤ 23
  | 109 => 0 ≤ v ∧ v ≤ 99
  | 113 => 0 ≤ v ∧ v ≤ 7
  | 114 => 0 ≤ v ∧ v ≤ 29
  | 115 => 0 ≤ v ∧ v ≤ 29
  | 116 => 0 ≤ v ∧ v ≤ 9
  | 117 => 0 ≤ v ∧ v ≤ 1
  | 118 => v = -9 ∨ (0 ≤ v ∧ v ≤ 199)
  | 119 => v = -9 ∨ (0 ≤ v ∧ v ≤ 199)
  | 120 => v = -9 ∨ (0 ≤ v ∧ v ≤ 199)
  | 121 => v = -9 ∨ (0 ≤ v ∧ v ≤ 199)
  | 122 => 0 ≤ v ∧ v ≤ 199
  | 127 => 0 ≤ v ∧ v ≤ 16383 ∧ (v % 256 = 255 ∨ (v % 8 ≤ 4 ∧ v / 8 % 32 ≤ 29))
  | 129 => v = -9 ∨ (0 ≤ v ∧ v ≤ 29)
  | 130 => v = -9 ∨ (0 ≤ v ∧ v ≤ 29)
  | 131 => v = -9 ∨ (0 ≤ v ∧ v ≤ 199)
  | 132 => 0 ≤ v ∧ v ≤ 1
  | 133 => v = -9 ∨ (0 ≤ v ∧ v ≤ 29)
  | 134 => v = -9 ∨ (0 ≤ v ∧ v ≤ 29)
  | 135 => v = -9 ∨ (0 ≤ v ∧ v ≤ 29)
  | 137 => 0 ≤ v ∧ v ≤ 29
  | 144 => 0 ≤ v ∧ v ≤ 29
  | 145 => 0 ≤ v ∧ v ≤ 16383 ∧ (v % 256 = 255 ∨ (v % 8 ≤ 4 ∧ v / 8 % 32 ≤ 29))
  | 150 => 0 ≤ v ∧ v ≤ 16383 ∧ (v % 256 = 255 ∨ (v % 8 ≤ 4 ∧ v / 8 % 32 ≤ 29))
  | 152 => 0 ≤ v ∧ v ≤ 1
  | 153 => 0 ≤ v ∧ v ≤ 1
  | 158 => v = -9 ∨ (0 ≤ v ∧ v ≤ 3)
  | 159 => 0 ≤ v ∧ v ≤ 12
  | 162 => 0 ≤ v ∧ v ≤ 5
  | 163 => 0 ≤ v ∧ v ≤ 12
  | 164 => v = -9 ∨ (0 ≤ v ∧ v ≤ 29)
  | 167 => 0 ≤ v ∧ v ≤ 16383 ∧ (v % 256 = 255 ∨ (v % 8 ≤ 4 ∧ v / 8 % 32 ≤ 29))
  | 169 => v = -9 ∨ (0 ≤ v ∧ v ≤ 299)
  | 170 => v = -9 ∨ (0 ≤ v ∧ v ≤ 299)
  | 179 => 0 ≤ v ∧ v ≤ 16383 ∧ (v % 256 = 255 ∨ (v % 8 ≤ 4 ∧ v / 8 % 32 ≤ 29))
  | 181 => 0 ≤ v ∧ v ≤ 1
  | 182 => 0 ≤ v ∧ v ≤ 1
  | 186 => 0 ≤ v ∧ v ≤ 5
  | _ => True
def xInv (i : Nat → Int32) (c : Nat → Nat → Int32) : Prop := (∀ k, xR k (i k).toInt) ∧ ∀ k j, xE k j (c k j).toInt
/-- flags that sentences name -/
def xFl (f b : Nat → Int32) : Prop := ∀ j, (f j).toInt = 6 → (b j).toInt ≤ 5
theorem xInv_i {i : Nat → Int32} {c : Nat → Nat → Int32} (h : xInv i c) {k : Nat} {v : Int32} (hv : xR k v.toInt) : xInv (upd i k v) c := by
  refine ⟨fun j => ?_, h.2⟩
  by_cases e : j = k
  · subst e; rw [pk_us]; exact hv
  · rw [pk_un e]; exact h.1 j
theorem xInv_c {i : Nat → Int32} {c : Nat → Nat → Int32} (h : xInv i c) {k j : Nat} {x : Int32} (hx : xE k j x.toInt) : xInv i (updA c k j x) := by
  refine ⟨h.1, fun k2 j2 => ?_⟩
  unfold updA
  by_cases e : k2 = k
  · subst e
    rw [if_pos rfl]
    by_cases e2 : j2 = j
    · subst e2; rw [pk_us]; exact hx
    · rw [pk_un e2]; exact h.2 k2 j2
  · rw [if_neg e]; exact h.2 k2 j2
def updF (c : Nat → Nat → Int32) (k : Nat) (f : Nat → Int32) : Nat → Nat → Int32 := fun k2 => if k2 = k then f else c k2
theorem xInv_f {i : Nat → Int32} {c : Nat → Nat → Int32} (h : xInv i c) {k : Nat} {f : Nat → Int32} (hx : ∀ j, xE k j (f j).toInt) : xInv i (updF c k f) := by
  refine ⟨h.1, fun k2 j2 => ?_⟩
  unfold updF
  by_cases e : k2 = k
  · subst e; rw [if_pos rfl]; exact hx j2
  · rw [if_neg e]; exact h.2 k2 j2
theorem fr_f {c0 c : Nat → Nat → Int32} {M M2 : List Nat} (h : ∀ k, k ∉ M → c k = c0 k) {k : Nat} {f : Nat → Int32} (hs : ∀ k, k ∈ M → k ∈ M2) (hk : k ∈ M2) : ∀ k2, k2 ∉ M2 → updF c k f k2 = c0 k2 := fun k2 h2 => by
  unfold updF
  rw [if_neg (fun e => h2 (by rw [e]; exact hk))]
  exact h k2 (fun q => h2 (hs k2 q))
/-! what every state of a run has: links within the nest, the static row of bodies -/
def xN (U : State) : Prop := va_Nw (.methodLinkNest RX0 124 yX2_weighBy "TalePlay") U ∧ va_Nw (.methodLinkNest RX0 130 yX2_weighThose "TalePlay") U ∧ va_Nw (.methodLinkNest RX1 68 yX11_isBelow "TalePlay") U ∧ va_Nw (.methodLinkNest RX1 110 yX11_oneIf "TalePlay") U ∧ va_Nw (.methodLinkNest RX7 157 yX11_deedOf "TalePlay") U ∧ va_Nw (.methodLinkNest RX9 101 yX11_isBelow "TalePlay") U ∧ va_Nw (.methodLinkNest RX9 128 yX11_deedOf "TalePlay") U ∧ va_Nw (.methodLinkNest RX9 146 yX11_oneIf "TalePlay") U
theorem xN_same {u U : State} (h : u.vm = U.vm) (q : xN u) : xN U := ⟨va_Nw.same rfl h q.1, va_Nw.same rfl h q.2.1, va_Nw.same rfl h q.2.2.1, va_Nw.same rfl h q.2.2.2.1, va_Nw.same rfl h q.2.2.2.2.1, va_Nw.same rfl h q.2.2.2.2.2.1, va_Nw.same rfl h q.2.2.2.2.2.2.1, va_Nw.same rfl h q.2.2.2.2.2.2.2⟩
theorem xN_warm {s U : State} (h : s.WarmedH U.vm) (q : xN s) : xN U := ⟨va_Nw.warmM h q.1, va_Nw.warmM h q.2.1, va_Nw.warmM h q.2.2.1, va_Nw.warmM h q.2.2.2.1, va_Nw.warmM h q.2.2.2.2.1, va_Nw.warmM h q.2.2.2.2.2.1, va_Nw.warmM h q.2.2.2.2.2.2.1, va_Nw.warmM h q.2.2.2.2.2.2.2⟩
def bodV (j : Nat) : Int32 := match j with
  | 0 => 0
  | 1 => 1
  | 2 => 4
  | 3 => 2
  | 4 => 3
  | _ => 5
/-- the static row BODIES: where it lies, and what it holds -/
def xZg (A : Nat → Prop) (B : Nat) (U : State) (H : Heap) : Prop := va_Z "TalePlay$Bulks" "BODIES" "[I" (.ref B) A U H ∧ va_T .int B 6 (fun j => .int (bodV j)) A U H
def xZ (B : Nat) (U : State) (H : Heap) : Prop := xZg (ro H.size) B U H
/-- the start of a method of the class that only reads -/
def yA (B : Nat) (D : va_G) (sz : Nat) (ws : va_W) (tys : List (ClassId × FieldType)) : State → Prop := fun U => pA D sz ws tys U ∧ xN U ∧ xZ B U U.heap
def yB (B : Nat) (D : va_G) (sz : Nat) (ws : va_W) (tys : List (ClassId × FieldType)) : State → Prop := fun U => pB D sz ws tys U ∧ xN U ∧ xZ B U U.heap ∧ ∀ (k : Nat) (q : Nat × va_E), ws[k]? = some q → q.1 ≠ B
theorem xZ_mv {A : Nat → Prop} {B : Nat} {u U : State} {H : Heap} (h : u.vm.Alike U.vm) (q : xZg A B u H) : xZg A B U H := ⟨va_Z.moved h q.1, va_T.moved h q.2⟩
theorem xZ_vm {A : Nat → Prop} {B : Nat} {u U : State} {H : Heap} (h : u.vm = U.vm) (q : xZg A B u H) : xZg A B U H := xZ_mv (by rw [h]; exact Vm.Alike.refl U.vm) q
theorem yA_bl {B : Nat} {av : List Value} {D : va_G} {sz : Nat} {ws : va_W} {tys : List (ClassId × FieldType)} : FrameBlind (va_Pc av (yA B D sz ws tys)) := fun a U g mk q => ⟨q.1, (pA_bl (av := av) a U g mk ⟨q.1, q.2.1⟩).2, xN_same (u := U) (U := U.calling g mk a) rfl q.2.2.1, xZ_vm (u := U) (U := U.calling g mk a) rfl q.2.2.2⟩
theorem yB_bl {B : Nat} {av : List Value} {D : va_G} {sz : Nat} {ws : va_W} {tys : List (ClassId × FieldType)} : FrameBlind (va_Pc av (yB B D sz ws tys)) := fun a U g mk q => ⟨q.1, (pB_bl (av := av) a U g mk ⟨q.1, q.2.1⟩).2, xN_same (u := U) (U := U.calling g mk a) rfl q.2.2.1, xZ_vm (u := U) (U := U.calling g mk a) rfl q.2.2.2.1, q.2.2.2.2⟩
theorem yA_V {s : State} {H : Heap} {D : va_G} {ws : va_W} {tys : List (ClassId × FieldType)} {B b ci q0 : Nat} {fs As : List Value} {q : vw_C} (hN : xN s) (hZ : xZ B s H) (hK : va_K D vwCl tys s) (hP : va_P D vwCl ws H) (hc : vwCl[ci]? = some q) (he : ws[q0]? = some (b, .inr (ci, fs))) : PreV s H q.1 b (va_Pc (.ref b :: As) (yA B D H.size ws tys)) As :=
  ⟨yA_bl, va_recv hK hP hc he, fun U hU hW => ⟨rfl, ⟨by rw [hU], by rw [hU]; exact hP, va_K.moved hW.alike hK⟩, xN_warm hW hN, by rw [hU]; exact xZ_mv hW.alike hZ⟩⟩
theorem yB_V {s : State} {H : Heap} {D : va_G} {ws : va_W} {tys : List (ClassId × FieldType)} {A : Nat → Prop} {B b ci q0 : Nat} {fs As : List Value} {q : vw_C} (hN : xN s) (hZ : xZ B s H) (hn : ∀ (k : Nat) (q : Nat × va_E), ws[k]? = some q → q.1 ≠ B) (hK : va_K D vwCl tys s) (hP : va_P D vwCl ws H) (hD : va_D A ws) (hc : vwCl[ci]? = some q) (he : ws[q0]? = some (b, .inr (ci, fs))) : PreV s H q.1 b (va_Pc (.ref b :: As) (yB B D H.size ws tys)) As :=
  ⟨yB_bl, va_recv hK hP hc he, fun U hU hW => ⟨rfl, ⟨by rw [hU], by rw [hU]; exact hP, va_K.moved hW.alike hK, hD.1, fun _ _ _ => trivial⟩, xN_warm hW hN, by rw [hU]; exact xZ_mv hW.alike hZ, hn⟩⟩
/-- the statics stay where a method may write its world and what is new -/
theorem xZ_A {B : Nat} {U : State} {H : Heap} {D : va_G} {ws : va_W} (hZ : xZ B U H) (hP : va_P D vwCl ws H) (hn : ∀ (k : Nat) (q : Nat × va_E), ws[k]? = some q → q.1 ≠ B) : xZg (va_A ws H.size) B U H := by
  obtain ⟨⟨cf, kf, fi, f, x, cell, h1, h2, h3, h4, h5, h6, h7, h8⟩, ⟨cl2, g1, g2, g3, g4, g5, g6, g7⟩⟩ := hZ
  refine ⟨⟨cf, kf, fi, f, x, cell, h1, h2, h3, h4, h5, h6, h7, fun q => ?_⟩, ⟨cl2, g1, g2, g3, g4, g5, g6, fun q => ?_⟩⟩
  · rcases q with ⟨k, e, q⟩ | q
    · have w := hP k (x, e) q
      cases e with
      | inl y =>
        have w : H[x]? = some (vp_cell y.1 y.2) := w
        rw [h5] at w
        have w := Option.some.inj w
        rw [w] at h6
        obtain ⟨cA, n, z⟩ := y
        rcases z with z | z | z | z | z <;> exact Bool.noConfusion (show false = true from h6)
      | inr y =>
        obtain ⟨r, hr, cell2, g1, g2, g3, _⟩ := w
        rw [h5] at g1
        have g1 := Option.some.inj g1
        rw [g1, g3] at h6
        exact Bool.noConfusion (show false = true from h6)
    · exact h8 q
  · rcases q with ⟨k, e, q⟩ | q
    · exact hn k (B, e) q rfl
    · exact g7 q
theorem xZ_k {B : Nat} {U : State} {H H1 : Heap} {A : Nat → Prop} {locs : List Loc} (hZ : xZg A B U H) (hS : va_S A H H1 locs) (hA : ∀ q, H.size ≤ q → A q) : xZ B U H1 := ⟨va_Z.narrow (va_Z.kept hZ.1 hS.2.1) (fun q h => hA q (Nat.le_trans hS.1 h)), va_T.narrow (va_T.kept hZ.2 hS.2.1) (fun q h => hA q (Nat.le_trans hS.1 h))⟩
theorem xZ_n {B : Nat} {U : State} {H : Heap} {A : Nat → Prop} {ws : va_W} (hZ : xZg A B U H) (hD : va_D A ws) : ∀ (k : Nat) (q : Nat × va_E), ws[k]? = some q → q.1 ≠ B := fun k q h e => by
  obtain ⟨_, _, _, _, _, _, _, g7⟩ := hZ.2
  exact g7 (by rw [← e]; exact hD.2 k q h)

