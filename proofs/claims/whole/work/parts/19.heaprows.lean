theorem e0 {h : AH} {x : Nat} : RunM 0 [.ref x] h = Run 0 0 [some (.ref x), none] [] h := rfl
theorem e1 {h : AH} {x : Nat} {v0 : Int32} : RunM 1 [.ref x, .int v0] h = Run 1 0 [some (.ref x), some (.int v0)] [] h := rfl
theorem e2 {h : AH} {x : Nat} : RunM 2 [.ref x] h = Run 2 0 [some (.ref x)] [] h := rfl
theorem e3 {h : AH} {x : Nat} : RunM 3 [.ref x] h = Run 3 0 [some (.ref x)] [] h := rfl
theorem e4 {h : AH} {x : Nat} : RunM 4 [.ref x] h = Run 4 0 [some (.ref x)] [] h := rfl
theorem e5 {h : AH} {x : Nat} {v0 : Int32} : RunM 5 [.ref x, .int v0] h = Run 5 0 [some (.ref x), some (.int v0)] [] h := rfl
theorem e6 {h : AH} {x : Nat} {v0 : Int32} {v1 : Int32} : RunM 6 [.ref x, .int v0, .int v1] h = Run 6 0 [some (.ref x), some (.int v0), some (.int v1)] [] h := rfl
theorem e7 {h : AH} {x : Nat} {v0 : Int32} {v1 : Int32} {v2 : Int32} : RunM 7 [.ref x, .int v0, .int v1, .int v2] h = Run 7 0 [some (.ref x), some (.int v0), some (.int v1), some (.int v2)] [] h := rfl
theorem e8 {h : AH} {x : Nat} {v0 : Int32} : RunM 8 [.ref x, .int v0] h = Run 8 0 [some (.ref x), some (.int v0), none] [] h := rfl
theorem e9 {h : AH} {x : Nat} {v0 : Int32} {v1 : Int32} : RunM 9 [.ref x, .int v0, .int v1] h = Run 9 0 [some (.ref x), some (.int v0), some (.int v1), none, none] [] h := rfl
theorem e10 {h : AH} {x : Nat} : RunM 10 [.ref x] h = Run 10 0 [some (.ref x)] [] h := rfl
theorem e11 {h : AH} {v0 : Int32} : RunM 11 [.int v0] h = Run 11 0 [some (.int v0)] [] h := rfl
theorem e12 {h : AH} {v0 : Int32} : RunM 12 [.int v0] h = Run 12 0 [some (.int v0)] [] h := rfl
theorem e13 {h : AH} {x : Nat} {v0 : Int32} {v1 : Nat} {v2 : Nat} : RunM 13 [.ref x, .int v0, .ref v1, .ref v2] h = Run 13 0 [some (.ref x), some (.int v0), some (.ref v1), some (.ref v2)] [] h := rfl
theorem e14 {h : AH} {x : Nat} : RunM 14 [.ref x] h = Run 14 0 [some (.ref x), none, none, none, none] [] h := rfl
theorem e15 {h : AH} {x : Nat} : RunM 15 [.ref x] h = Run 15 0 [some (.ref x), none, none, none, none] [] h := rfl
theorem e16 {h : AH} {x : Nat} : RunM 16 [.ref x] h = Run 16 0 [some (.ref x)] [] h := rfl
theorem e17 {h : AH} {x : Nat} {v0 : Nat} : RunM 17 [.ref x, .ref v0] h = Run 17 0 [some (.ref x), some (.ref v0), none, none] [] h := rfl
theorem e18 {h : AH} {x : Nat} {v0 : Int32} {v1 : Int32} : RunM 18 [.ref x, .int v0, .int v1] h = Run 18 0 [some (.ref x), some (.int v0), some (.int v1), none] [] h := rfl
theorem e19 {h : AH} {x : Nat} {v0 : Int32} : RunM 19 [.ref x, .int v0] h = Run 19 0 [some (.ref x), some (.int v0), none, none, none] [] h := rfl
theorem e20 {h : AH} {x : Nat} {v0 : Int32} {v1 : Int32} : RunM 20 [.ref x, .int v0, .int v1] h = Run 20 0 [some (.ref x), some (.int v0), some (.int v1), none, none] [] h := rfl
theorem e21 {h : AH} {x : Nat} {v0 : Int32} : RunM 21 [.ref x, .int v0] h = Run 21 0 [some (.ref x), some (.int v0), none, none, none] [] h := rfl
theorem e22 {h : AH} {x : Nat} {v0 : Int32} {v1 : Int32} {v2 : Nat} : RunM 22 [.ref x, .int v0, .int v1, .ref v2] h = Run 22 0 [some (.ref x), some (.int v0), some (.int v1), some (.ref v2), none] [] h := rfl
theorem e23 {h : AH} {x : Nat} : RunM 23 [.ref x] h = Run 23 0 [some (.ref x)] [] h := rfl
theorem e24 {h : AH} {x : Nat} : RunM 24 [.ref x] h = Run 24 0 [some (.ref x)] [] h := rfl
theorem e25 {h : AH} {x : Nat} : RunM 25 [.ref x] h = Run 25 0 [some (.ref x)] [] h := rfl
theorem e26 {h : AH} {x : Nat} : RunM 26 [.ref x] h = Run 26 0 [some (.ref x)] [] h := rfl
theorem e27 {h : AH} {x : Nat} : RunM 27 [.ref x] h = Run 27 0 [some (.ref x)] [] h := rfl
theorem e28 {h : AH} {x : Nat} {v0 : Int32} : RunM 28 [.ref x, .int v0] h = Run 28 0 [some (.ref x), some (.int v0), none] [] h := rfl
theorem e29 {h : AH} {x : Nat} {v0 : Int32} : RunM 29 [.ref x, .int v0] h = Run 29 0 [some (.ref x), some (.int v0), none] [] h := rfl
theorem e30 {h : AH} {x : Nat} {v0 : Int32} : RunM 30 [.ref x, .int v0] h = Run 30 0 [some (.ref x), some (.int v0)] [] h := rfl
theorem e31 {h : AH} {x : Nat} {v0 : Int32} : RunM 31 [.ref x, .int v0] h = Run 31 0 [some (.ref x), some (.int v0)] [] h := rfl
theorem e32 {h : AH} {x : Nat} {v0 : Int32} : RunM 32 [.ref x, .int v0] h = Run 32 0 [some (.ref x), some (.int v0)] [] h := rfl
theorem e33 {h : AH} {x : Nat} {v0 : Int32} : RunM 33 [.ref x, .int v0] h = Run 33 0 [some (.ref x), some (.int v0)] [] h := rfl
theorem e34 {h : AH} {x : Nat} {v0 : Int32} : RunM 34 [.ref x, .int v0] h = Run 34 0 [some (.ref x), some (.int v0)] [] h := rfl
theorem e35 {h : AH} {x : Nat} {v0 : Nat} {v1 : Int32} {v2 : Int32} : RunM 35 [.ref x, .ref v0, .int v1, .int v2] h = Run 35 0 [some (.ref x), some (.ref v0), some (.int v1), some (.int v2)] [] h := rfl
theorem e36 {h : AH} {x : Nat} {v0 : Nat} : RunM 36 [.ref x, .ref v0] h = Run 36 0 [some (.ref x), some (.ref v0)] [] h := rfl
theorem e37 {h : AH} {x : Nat} {v0 : Nat} : RunM 37 [.ref x, .ref v0] h = Run 37 0 [some (.ref x), some (.ref v0), none, none] [] h := rfl
theorem e38 {h : AH} {x : Nat} {v0 : Nat} {v1 : Int32} : RunM 38 [.ref x, .ref v0, .int v1] h = Run 38 0 [some (.ref x), some (.ref v0), some (.int v1), none, none] [] h := rfl
theorem e39 {h : AH} {x : Nat} {v0 : Int32} {v1 : Int32} {v2 : Int32} {v3 : Int64} : RunM 39 [.ref x, .int v0, .int v1, .int v2, .long v3] h = Run 39 0 [some (.ref x), some (.int v0), some (.int v1), some (.int v2), some (.long v3), none, none] [] h := rfl
theorem e40 {h : AH} {x : Nat} {v0 : Int32} : RunM 40 [.ref x, .int v0] h = Run 40 0 [some (.ref x), some (.int v0), none] [] h := rfl
theorem e41 {h : AH} {x : Nat} {v0 : Int32} : RunM 41 [.ref x, .int v0] h = Run 41 0 [some (.ref x), some (.int v0)] [] h := rfl
theorem e42 {h : AH} {x : Nat} : RunM 42 [.ref x] h = Run 42 0 [some (.ref x)] [] h := rfl
theorem e43 {h : AH} {x : Nat} : RunM 43 [.ref x] h = Run 43 0 [some (.ref x)] [] h := rfl
theorem e44 {h : AH} {x : Nat} : RunM 44 [.ref x] h = Run 44 0 [some (.ref x)] [] h := rfl
theorem e45 {h : AH} {x : Nat} {v0 : Int32} : RunM 45 [.ref x, .int v0] h = Run 45 0 [some (.ref x), some (.int v0)] [] h := rfl
theorem e46 {h : AH} {x : Nat} {v0 : Int32} : RunM 46 [.ref x, .int v0] h = Run 46 0 [some (.ref x), some (.int v0)] [] h := rfl
theorem e47 {h : AH} {x : Nat} {v0 : Int32} {v1 : Int32} {v2 : Int64} : RunM 47 [.ref x, .int v0, .int v1, .long v2] h = Run 47 0 [some (.ref x), some (.int v0), some (.int v1), some (.long v2), none, none] [] h := rfl
theorem e48 {h : AH} {x : Nat} {v0 : Int32} {v1 : Int32} : RunM 48 [.ref x, .int v0, .int v1] h = Run 48 0 [some (.ref x), some (.int v0), some (.int v1)] [] h := rfl
theorem e49 {h : AH} {x : Nat} {v0 : Int32} : RunM 49 [.ref x, .int v0] h = Run 49 0 [some (.ref x), some (.int v0)] [] h := rfl
theorem e50 {h : AH} {x : Nat} {v0 : Int32} {v1 : Int32} : RunM 50 [.ref x, .int v0, .int v1] h = Run 50 0 [some (.ref x), some (.int v0), some (.int v1)] [] h := rfl
theorem e51 {h : AH} {x : Nat} : RunM 51 [.ref x] h = Run 51 0 [some (.ref x)] [] h := rfl
theorem e52 {h : AH} {x : Nat} {v0 : Int32} {v1 : Int32} : RunM 52 [.ref x, .int v0, .int v1] h = Run 52 0 [some (.ref x), some (.int v0), some (.int v1), none, none, none] [] h := rfl
theorem e53 {h : AH} {x : Nat} : RunM 53 [.ref x] h = Run 53 0 [some (.ref x), none, none, none] [] h := rfl
theorem e54 {h : AH} {x : Nat} {v0 : Int32} : RunM 54 [.ref x, .int v0] h = Run 54 0 [some (.ref x), some (.int v0)] [] h := rfl
theorem e55 {h : AH} {x : Nat} : RunM 55 [.ref x] h = Run 55 0 [some (.ref x)] [] h := rfl
theorem e56 {h : AH} {x : Nat} : RunM 56 [.ref x] h = Run 56 0 [some (.ref x)] [] h := rfl
theorem e57 {h : AH} {x : Nat} : RunM 57 [.ref x] h = Run 57 0 [some (.ref x), none] [] h := rfl
theorem e58 {h : AH} {x : Nat} : RunM 58 [.ref x] h = Run 58 0 [some (.ref x), none] [] h := rfl
theorem e59 {h : AH} {x : Nat} {v0 : Int32} {v1 : Int32} : RunM 59 [.ref x, .int v0, .int v1] h = Run 59 0 [some (.ref x), some (.int v0), some (.int v1), none, none, none] [] h := rfl
theorem e60 {h : AH} {x : Nat} {v0 : Int32} {v1 : Int32} {v2 : Int32} {v3 : Int64} : RunM 60 [.ref x, .int v0, .int v1, .int v2, .long v3] h = Run 60 0 [some (.ref x), some (.int v0), some (.int v1), some (.int v2), some (.long v3), none, none, none] [] h := rfl
theorem e61 {h : AH} {x : Nat} {v0 : Int32} {v1 : Int32} : RunM 61 [.ref x, .int v0, .int v1] h = Run 61 0 [some (.ref x), some (.int v0), some (.int v1), none, none, none] [] h := rfl
theorem e62 {h : AH} {x : Nat} {v0 : Int32} {v1 : Int32} {v2 : Int32} {v3 : Int32} : RunM 62 [.ref x, .int v0, .int v1, .int v2, .int v3] h = Run 62 0 [some (.ref x), some (.int v0), some (.int v1), some (.int v2), some (.int v3), none, none, none, none, none] [] h := rfl
theorem e63 {h : AH} {x : Nat} {v0 : Int32} {v1 : Int32} : RunM 63 [.ref x, .int v0, .int v1] h = Run 63 0 [some (.ref x), some (.int v0), some (.int v1), none] [] h := rfl
theorem e64 {h : AH} {x : Nat} {v0 : Int32} {v1 : Int32} : RunM 64 [.ref x, .int v0, .int v1] h = Run 64 0 [some (.ref x), some (.int v0), some (.int v1), none, none] [] h := rfl
theorem e65 {h : AH} {x : Nat} {v0 : Int32} {v1 : Int32} : RunM 65 [.ref x, .int v0, .int v1] h = Run 65 0 [some (.ref x), some (.int v0), some (.int v1), none, none] [] h := rfl
theorem e66 {h : AH} {x : Nat} {v0 : Int32} {v1 : Int32} : RunM 66 [.ref x, .int v0, .int v1] h = Run 66 0 [some (.ref x), some (.int v0), some (.int v1), none, none] [] h := rfl
theorem e67 {h : AH} {x : Nat} {v0 : Int32} {v1 : Int32} : RunM 67 [.ref x, .int v0, .int v1] h = Run 67 0 [some (.ref x), some (.int v0), some (.int v1), none, none] [] h := rfl
theorem e68 {h : AH} {x : Nat} : RunM 68 [.ref x] h = Run 68 0 [some (.ref x), none, none] [] h := rfl
theorem e69 {h : AH} {x : Nat} {v0 : Int32} {v1 : Int32} : RunM 69 [.ref x, .int v0, .int v1] h = Run 69 0 [some (.ref x), some (.int v0), some (.int v1)] [] h := rfl
theorem e70 {h : AH} {x : Nat} {v0 : Int32} : RunM 70 [.ref x, .int v0] h = Run 70 0 [some (.ref x), some (.int v0)] [] h := rfl
theorem e71 {h : AH} {x : Nat} : RunM 71 [.ref x] h = Run 71 0 [some (.ref x)] [] h := rfl
theorem e72 {h : AH} {x : Nat} : RunM 72 [.ref x] h = Run 72 0 [some (.ref x)] [] h := rfl
theorem e73 {h : AH} {x : Nat} {v0 : Int32} {v1 : Int32} : RunM 73 [.ref x, .int v0, .int v1] h = Run 73 0 [some (.ref x), some (.int v0), some (.int v1)] [] h := rfl
theorem e74 {h : AH} {v0 : Int32} : RunM 74 [.int v0] h = Run 74 0 [some (.int v0)] [] h := rfl
theorem e75 {h : AH} {v0 : Int32} : RunM 75 [.int v0] h = Run 75 0 [some (.int v0)] [] h := rfl
theorem e76 {h : AH} {x : Nat} {v0 : Int32} : RunM 76 [.ref x, .int v0] h = Run 76 0 [some (.ref x), some (.int v0)] [] h := rfl
theorem e77 {h : AH} {x : Nat} {v0 : Int32} : RunM 77 [.ref x, .int v0] h = Run 77 0 [some (.ref x), some (.int v0)] [] h := rfl
theorem e78 {h : AH} {x : Nat} {v0 : Int32} : RunM 78 [.ref x, .int v0] h = Run 78 0 [some (.ref x), some (.int v0)] [] h := rfl
theorem e79 {h : AH} {x : Nat} : RunM 79 [.ref x] h = Run 79 0 [some (.ref x), none] [] h := rfl
theorem e80 {h : AH} {x : Nat} : RunM 80 [.ref x] h = Run 80 0 [some (.ref x), none, none] [] h := rfl
theorem e81 {h : AH} {x : Nat} {v0 : Int32} {v1 : Nat} : RunM 81 [.ref x, .int v0, .ref v1] h = Run 81 0 [some (.ref x), some (.int v0), some (.ref v1), none, none, none, none, none] [] h := rfl
theorem e82 {h : AH} {x : Nat} : RunM 82 [.ref x] h = Run 82 0 [some (.ref x), none, none] [] h := rfl
theorem e83 {h : AH} {x : Nat} {v0 : Nat} : RunM 83 [.ref x, .ref v0] h = Run 83 0 [some (.ref x), some (.ref v0), none, none] [] h := rfl
theorem e84 {h : AH} {x : Nat} {v0 : Nat} {v1 : Int32} {v2 : Nat} {v3 : Int32} : RunM 84 [.ref x, .ref v0, .int v1, .ref v2, .int v3] h = Run 84 0 [some (.ref x), some (.ref v0), some (.int v1), some (.ref v2), some (.int v3), none, none] [] h := rfl
theorem e85 {h : AH} {x : Nat} {v0 : Int32} {v1 : Int32} : RunM 85 [.ref x, .int v0, .int v1] h = Run 85 0 [some (.ref x), some (.int v0), some (.int v1)] [] h := rfl
theorem e86 {h : AH} {x : Nat} {v0 : Nat} {v1 : Int32} {v2 : Int32} : RunM 86 [.ref x, .ref v0, .int v1, .int v2] h = Run 86 0 [some (.ref x), some (.ref v0), some (.int v1), some (.int v2)] [] h := rfl
theorem e87 {h : AH} {x : Nat} {v0 : Nat} {v1 : Int32} {v2 : Nat} {v3 : Int32} : RunM 87 [.ref x, .ref v0, .int v1, .ref v2, .int v3] h = Run 87 0 [some (.ref x), some (.ref v0), some (.int v1), some (.ref v2), some (.int v3), none] [] h := rfl
theorem e88 {h : AH} {x : Nat} : RunM 88 [.ref x] h = Run 88 0 [some (.ref x), none] [] h := rfl
theorem e89 {h : AH} {x : Nat} {v0 : Int32} : RunM 89 [.ref x, .int v0] h = Run 89 0 [some (.ref x), some (.int v0)] [] h := rfl
theorem e90 {h : AH} {x : Nat} : RunM 90 [.ref x] h = Run 90 0 [some (.ref x)] [] h := rfl
theorem e91 {h : AH} {x : Nat} : RunM 91 [.ref x] h = Run 91 0 [some (.ref x)] [] h := rfl
theorem e92 {h : AH} {x : Nat} : RunM 92 [.ref x] h = Run 92 0 [some (.ref x)] [] h := rfl
theorem e93 {h : AH} {x : Nat} {v0 : Int32} {v1 : Int32} : RunM 93 [.ref x, .int v0, .int v1] h = Run 93 0 [some (.ref x), some (.int v0), some (.int v1)] [] h := rfl
theorem e94 {h : AH} {x : Nat} {v0 : Int32} : RunM 94 [.ref x, .int v0] h = Run 94 0 [some (.ref x), some (.int v0), none] [] h := rfl
theorem e95 {h : AH} {x : Nat} {v0 : Int32} : RunM 95 [.ref x, .int v0] h = Run 95 0 [some (.ref x), some (.int v0), none] [] h := rfl
theorem e96 {h : AH} {x : Nat} {v0 : Int32} : RunM 96 [.ref x, .int v0] h = Run 96 0 [some (.ref x), some (.int v0), none, none, none] [] h := rfl
theorem e97 {h : AH} {x : Nat} {v0 : Int32} : RunM 97 [.ref x, .int v0] h = Run 97 0 [some (.ref x), some (.int v0), none] [] h := rfl
theorem e98 {h : AH} {x : Nat} {v0 : Int32} {v1 : Int32} {v2 : Int32} {v3 : Int64} : RunM 98 [.ref x, .int v0, .int v1, .int v2, .long v3] h = Run 98 0 [some (.ref x), some (.int v0), some (.int v1), some (.int v2), some (.long v3), none, none] [] h := rfl
theorem e99 {h : AH} {x : Nat} {v0 : Int32} : RunM 99 [.ref x, .int v0] h = Run 99 0 [some (.ref x), some (.int v0), none, none] [] h := rfl
theorem e100 {h : AH} {x : Nat} {v0 : Nat} {v1 : Int32} {v2 : Int32} : RunM 100 [.ref x, .ref v0, .int v1, .int v2] h = Run 100 0 [some (.ref x), some (.ref v0), some (.int v1), some (.int v2), none, none, none, none, none, none, none] [] h := rfl
theorem e101 {h : AH} {x : Nat} {v0 : Int32} : RunM 101 [.ref x, .int v0] h = Run 101 0 [some (.ref x), some (.int v0), none, none, none, none, none] [] h := rfl
theorem e102 {h : AH} {x : Nat} {v0 : Int32} {v1 : Int32} {v2 : Nat} {v3 : Int32} : RunM 102 [.ref x, .int v0, .int v1, .ref v2, .int v3] h = Run 102 0 [some (.ref x), some (.int v0), some (.int v1), some (.ref v2), some (.int v3), none] [] h := rfl
theorem e103 {h : AH} {x : Nat} {v0 : Int32} : RunM 103 [.ref x, .int v0] h = Run 103 0 [some (.ref x), some (.int v0)] [] h := rfl
theorem e104 {h : AH} {x : Nat} {v0 : Int32} : RunM 104 [.ref x, .int v0] h = Run 104 0 [some (.ref x), some (.int v0), none, none] [] h := rfl
theorem e105 {h : AH} {x : Nat} {v0 : Int32} : RunM 105 [.ref x, .int v0] h = Run 105 0 [some (.ref x), some (.int v0), none] [] h := rfl
theorem e106 {h : AH} {x : Nat} {v0 : Int32} : RunM 106 [.ref x, .int v0] h = Run 106 0 [some (.ref x), some (.int v0), none] [] h := rfl
theorem e107 {h : AH} {x : Nat} {v0 : Int32} : RunM 107 [.ref x, .int v0] h = Run 107 0 [some (.ref x), some (.int v0)] [] h := rfl
theorem e108 {h : AH} {x : Nat} {v0 : Int32} : RunM 108 [.ref x, .int v0] h = Run 108 0 [some (.ref x), some (.int v0), none, none, none, none, none] [] h := rfl
theorem e109 {h : AH} {x : Nat} {v0 : Int32} : RunM 109 [.ref x, .int v0] h = Run 109 0 [some (.ref x), some (.int v0)] [] h := rfl
theorem e110 {h : AH} {x : Nat} : RunM 110 [.ref x] h = Run 110 0 [some (.ref x)] [] h := rfl
theorem e111 {h : AH} {x : Nat} {v0 : Int32} {v1 : Int32} : RunM 111 [.ref x, .int v0, .int v1] h = Run 111 0 [some (.ref x), some (.int v0), some (.int v1)] [] h := rfl
theorem e112 {h : AH} {x : Nat} : RunM 112 [.ref x] h = Run 112 0 [some (.ref x)] [] h := rfl
theorem e113 {h : AH} {x : Nat} : RunM 113 [.ref x] h = Run 113 0 [some (.ref x), none, none, none, none, none, none] [] h := rfl
theorem e114 {h : AH} {v0 : Int32} : RunM 114 [.int v0] h = Run 114 0 [some (.int v0)] [] h := rfl
theorem e115 {h : AH} {x : Nat} {v0 : Int32} {v1 : Int32} : RunM 115 [.ref x, .int v0, .int v1] h = Run 115 0 [some (.ref x), some (.int v0), some (.int v1), none, none, none, none] [] h := rfl
theorem e116 {h : AH} {x : Nat} {v0 : Int32} {v1 : Int32} {v2 : Int32} {v3 : Int64} : RunM 116 [.ref x, .int v0, .int v1, .int v2, .long v3] h = Run 116 0 [some (.ref x), some (.int v0), some (.int v1), some (.int v2), some (.long v3), none, none, none, none] [] h := rfl
theorem e117 {h : AH} {x : Nat} {v0 : Int32} {v1 : Int32} : RunM 117 [.ref x, .int v0, .int v1] h = Run 117 0 [some (.ref x), some (.int v0), some (.int v1), none, none] [] h := rfl
theorem e118 {h : AH} {x : Nat} {v0 : Int32} {v1 : Int32} {v2 : Int32} {v3 : Int64} : RunM 118 [.ref x, .int v0, .int v1, .int v2, .long v3] h = Run 118 0 [some (.ref x), some (.int v0), some (.int v1), some (.int v2), some (.long v3), none, none] [] h := rfl
theorem e119 {h : AH} {x : Nat} {v0 : Int32} {v1 : Int32} {v2 : Int32} {v3 : Int32} : RunM 119 [.ref x, .int v0, .int v1, .int v2, .int v3] h = Run 119 0 [some (.ref x), some (.int v0), some (.int v1), some (.int v2), some (.int v3), none, none, none, none, none, none, none] [] h := rfl
theorem e120 {h : AH} {x : Nat} {v0 : Int32} {v1 : Int32} : RunM 120 [.ref x, .int v0, .int v1] h = Run 120 0 [some (.ref x), some (.int v0), some (.int v1), none, none] [] h := rfl
theorem e121 {h : AH} {x : Nat} {v0 : Int32} {v1 : Int32} : RunM 121 [.ref x, .int v0, .int v1] h = Run 121 0 [some (.ref x), some (.int v0), some (.int v1), none] [] h := rfl
theorem e122 {h : AH} {x : Nat} {v0 : Int32} {v1 : Int32} : RunM 122 [.ref x, .int v0, .int v1] h = Run 122 0 [some (.ref x), some (.int v0), some (.int v1), none] [] h := rfl
theorem e123 {h : AH} {x : Nat} {v0 : Int32} {v1 : Int32} : RunM 123 [.ref x, .int v0, .int v1] h = Run 123 0 [some (.ref x), some (.int v0), some (.int v1), none] [] h := rfl
theorem e124 {h : AH} {x : Nat} {v0 : Int32} {v1 : Int32} : RunM 124 [.ref x, .int v0, .int v1] h = Run 124 0 [some (.ref x), some (.int v0), some (.int v1), none] [] h := rfl
theorem e125 {h : AH} {x : Nat} {v0 : Int32} {v1 : Int32} : RunM 125 [.ref x, .int v0, .int v1] h = Run 125 0 [some (.ref x), some (.int v0), some (.int v1), none] [] h := rfl
theorem e126 {h : AH} {x : Nat} : RunM 126 [.ref x] h = Run 126 0 [some (.ref x), none, none, none] [] h := rfl
theorem e127 {h : AH} {x : Nat} {v0 : Int32} {v1 : Int32} : RunM 127 [.ref x, .int v0, .int v1] h = Run 127 0 [some (.ref x), some (.int v0), some (.int v1)] [] h := rfl
theorem e128 {h : AH} {x : Nat} {v0 : Int32} : RunM 128 [.ref x, .int v0] h = Run 128 0 [some (.ref x), some (.int v0)] [] h := rfl
theorem e129 {h : AH} {x : Nat} : RunM 129 [.ref x] h = Run 129 0 [some (.ref x)] [] h := rfl
theorem e130 {h : AH} {v0 : Nat} : RunM 130 [.ref v0] h = Run 130 0 [some (.ref v0), none, none, none] [] h := rfl
theorem cl1_i (x : Int32) : cl1 (some (.int x)) = some (.int x) := rfl
theorem cl1_r (x : Nat) : cl1 (some (.ref x)) = some (.ref x) := rfl
theorem cl1_n : cl1 (some .null) = some .null := rfl
theorem cl1_0 : cl1 none = none := rfl
theorem cl1_J (x : Int64) : cl1 (some (.long x)) = none := rfl
theorem inB_t {b k : Int32} {n : Nat} (hk : k.toInt = n) (h1 : ¬ b < 0) (h2 : b < k) : inB b n = true := by
  rw [Int32.lt_iff_toInt_lt] at h1 h2
  rw [Int32.toInt_zero] at h1
  simp only [inB, Bool.and_eq_true, decide_eq_true_eq]
  omega
theorem inB_f1 {b : Int32} {n : Nat} (h1 : b < 0) : inB b n = false := by
  rw [Int32.lt_iff_toInt_lt, Int32.toInt_zero] at h1
  simp only [inB, Bool.and_eq_false_iff, decide_eq_false_iff_not]
  omega
theorem inB_f2 {b k : Int32} {n : Nat} (hk : k.toInt = n) (h2 : ¬ b < k) : inB b n = false := by
  rw [Int32.lt_iff_toInt_lt] at h2
  simp only [inB, Bool.and_eq_false_iff, decide_eq_false_iff_not]
  omega
theorem inB_nI {k n : Nat} (h : k < n) (hn : n < 2 ^ 31) : inB (nI k) n = true := by
  simp only [inB, Bool.and_eq_true, decide_eq_true_eq]
  rw [nI_toInt (by omega)]
  omega
theorem inB_of {b : Int32} {n : Nat} (h : inB b n = true) (hn : n < 2 ^ 31) : ∃ k, k < n ∧ b = nI k := by
  simp only [inB, Bool.and_eq_true, decide_eq_true_eq] at h
  exact vp_in_of (vp_in_iff.mpr h) hn
section HROWS
variable {sc : AC} {F : FlS} {s c : OpS} {th be qu : Nat → Int32} {mo : Int32} {li : Nat → LiS} {mm : AH} {q : Nat} {i v : Int32}
theorem gT0 : fld (hp sc F s c th be qu mo li mm) 1 4 0 = some (.ref 2) := rfl
theorem gT1 : fld (hp sc F s c th be qu mo li mm) 1 4 1 = some (.ref 7) := rfl
theorem gT2 : fld (hp sc F s c th be qu mo li mm) 1 4 2 = some (.ref 8) := rfl
theorem gT3 : fld (hp sc F s c th be qu mo li mm) 1 4 3 = some (.ref 9) := rfl
theorem gT4 : fld (hp sc F s c th be qu mo li mm) 1 4 4 = some (.ref 10) := rfl
theorem gT5 : fld (hp sc F s c th be qu mo li mm) 1 4 5 = some (.ref 11) := rfl
theorem gT6 : fld (hp sc F s c th be qu mo li mm) 1 4 6 = some (.int mo) := rfl
theorem gF0 : fld (hp sc F s c th be qu mo li mm) 2 0 0 = some (.ref 3) := rfl
theorem gF1 : fld (hp sc F s c th be qu mo li mm) 2 0 1 = some (.ref 4) := rfl
theorem gF2 : fld (hp sc F s c th be qu mo li mm) 2 0 2 = some (.int F.2.2.1) := rfl
theorem gF3 : fld (hp sc F s c th be qu mo li mm) 2 0 3 = some (.int F.2.2.2.1) := rfl
theorem gF4 : fld (hp sc F s c th be qu mo li mm) 2 0 4 = some (.int F.2.2.2.2) := rfl
theorem gS0 : fld (hp sc F s c th be qu mo li mm) 5 3 0 = some (.ref 6) := rfl
theorem gS1 : fld (hp sc F s c th be qu mo li mm) 5 3 1 = some (.int s.2) := rfl
theorem gC0 : fld (hp sc F s c th be qu mo li mm) 11 3 0 = some (.ref 12) := rfl
theorem gC1 : fld (hp sc F s c th be qu mo li mm) 11 3 1 = some (.int c.2) := rfl
theorem gO0 (hq : q < 8) : fld (hp sc F s c th be qu mo li mm) (13 + 6 * q) 1 0 = some (.int (nI q)) := fld_of (hp_fo q hq) rfl
theorem gO1 (hq : q < 8) : fld (hp sc F s c th be qu mo li mm) (13 + 6 * q) 1 1 = some (.ref 2) := fld_of (hp_fo q hq) rfl
theorem gO2 (hq : q < 8) : fld (hp sc F s c th be qu mo li mm) (13 + 6 * q) 1 2 = some (.ref 5) := fld_of (hp_fo q hq) rfl
theorem gO3 (hq : q < 8) : fld (hp sc F s c th be qu mo li mm) (13 + 6 * q) 1 3 = some (.ref (14 + 6 * q)) := fld_of (hp_fo q hq) rfl
theorem gL0 (hq : q < 8) : fld (hp sc F s c th be qu mo li mm) (14 + 6 * q) 2 0 = some (.ref (15 + 6 * q)) := fld_of (hp_li q hq) rfl
theorem gL1 (hq : q < 8) : fld (hp sc F s c th be qu mo li mm) (14 + 6 * q) 2 1 = some (.ref (16 + 6 * q)) := fld_of (hp_li q hq) rfl
theorem gL2 (hq : q < 8) : fld (hp sc F s c th be qu mo li mm) (14 + 6 * q) 2 2 = some (.ref (17 + 6 * q)) := fld_of (hp_li q hq) rfl
theorem gL3 (hq : q < 8) : fld (hp sc F s c th be qu mo li mm) (14 + 6 * q) 2 3 = some (.ref (18 + 6 * q)) := fld_of (hp_li q hq) rfl
theorem gL4 (hq : q < 8) : fld (hp sc F s c th be qu mo li mm) (14 + 6 * q) 2 4 = some (.int (li q).2.2.2.2.1) := fld_of (hp_li q hq) rfl
theorem gL5 (hq : q < 8) : fld (hp sc F s c th be qu mo li mm) (14 + 6 * q) 2 5 = some (.int (li q).2.2.2.2.2.1) := fld_of (hp_li q hq) rfl
theorem gL6 (hq : q < 8) : fld (hp sc F s c th be qu mo li mm) (14 + 6 * q) 2 6 = some (.int (li q).2.2.2.2.2.2) := fld_of (hp_li q hq) rfl
theorem iT : isO (hp sc F s c th be qu mo li mm) 1 4 = true := id rfl
theorem iF : isO (hp sc F s c th be qu mo li mm) 2 0 = true := id rfl
theorem iS : isO (hp sc F s c th be qu mo li mm) 5 3 = true := id rfl
theorem iC : isO (hp sc F s c th be qu mo li mm) 11 3 = true := id rfl
theorem iO (hq : q < 8) : isO (hp sc F s c th be qu mo li mm) (13 + 6 * q) 1 = true := by unfold isO; rw [hp_fo q hq]; rfl
theorem iL (hq : q < 8) : isO (hp sc F s c th be qu mo li mm) (14 + 6 * q) 2 = true := by unfold isO; rw [hp_li q hq]; rfl
theorem a3 (hi : inB i 1024 = true) : ald (hp sc F s c th be qu mo li mm) 3 .int i = some (.int (F.1 i.toNatClampNeg)) := ald_of (f := fun j => .int (F.1 j)) rfl hi
theorem la3 : aln (hp sc F s c th be qu mo li mm) 3 = some 1024 := rfl
theorem a4 (hi : inB i 16 = true) : ald (hp sc F s c th be qu mo li mm) 4 .int i = some (.int (F.2.1 i.toNatClampNeg)) := ald_of (f := fun j => .int (F.2.1 j)) rfl hi
theorem la4 : aln (hp sc F s c th be qu mo li mm) 4 = some 16 := rfl
theorem a6 (hi : inB i 64 = true) : ald (hp sc F s c th be qu mo li mm) 6 .int i = some (.int (s.1 i.toNatClampNeg)) := ald_of (f := fun j => .int (s.1 j)) rfl hi
theorem la6 : aln (hp sc F s c th be qu mo li mm) 6 = some 64 := rfl
theorem a8 (hi : inB i 8 = true) : ald (hp sc F s c th be qu mo li mm) 8 .boolean i = some (.int (th i.toNatClampNeg)) := ald_of (f := fun j => .int (th j)) rfl hi
theorem la8 : aln (hp sc F s c th be qu mo li mm) 8 = some 8 := rfl
theorem a9 (hi : inB i 8 = true) : ald (hp sc F s c th be qu mo li mm) 9 .boolean i = some (.int (be i.toNatClampNeg)) := ald_of (f := fun j => .int (be j)) rfl hi
theorem la9 : aln (hp sc F s c th be qu mo li mm) 9 = some 8 := rfl
theorem a10 (hi : inB i 8 = true) : ald (hp sc F s c th be qu mo li mm) 10 .int i = some (.int (qu i.toNatClampNeg)) := ald_of (f := fun j => .int (qu j)) rfl hi
theorem la10 : aln (hp sc F s c th be qu mo li mm) 10 = some 8 := rfl
theorem a12 (hi : inB i 64 = true) : ald (hp sc F s c th be qu mo li mm) 12 .int i = some (.int (c.1 i.toNatClampNeg)) := ald_of (f := fun j => .int (c.1 j)) rfl hi
theorem la12 : aln (hp sc F s c th be qu mo li mm) 12 = some 64 := rfl
theorem a7 (hq : q < 8) : ald (hp sc F s c th be qu mo li mm) 7 (.object (cName 1)) (nI q) = some (.ref (13 + 6 * q)) := by
  rw [ald_of (f := foA) (n := 8) rfl (inB_nI hq (by decide)), nI_clamp (by omega), foA, if_pos hq]
theorem aN (hq : q < 8) (hi : inB i 4 = true) : ald (hp sc F s c th be qu mo li mm) (15 + 6 * q) .int i = some (.int ((li q).1 i.toNatClampNeg)) := ald_of (f := fun j => .int ((li q).1 j)) (hp_nm q hq) hi
theorem aP (hq : q < 8) (hi : inB i 4 = true) : ald (hp sc F s c th be qu mo li mm) (16 + 6 * q) .int i = some (.int ((li q).2.1 i.toNatClampNeg)) := ald_of (f := fun j => .int ((li q).2.1 j)) (hp_pr q hq) hi
theorem aG (hq : q < 8) (hi : inB i 4 = true) : ald (hp sc F s c th be qu mo li mm) (17 + 6 * q) .int i = some (.int ((li q).2.2.1 i.toNatClampNeg)) := ald_of (f := fun j => .int ((li q).2.2.1 j)) (hp_ln q hq) hi
theorem aJ (hq : q < 8) (hi : inB i 4 = true) : ald (hp sc F s c th be qu mo li mm) (18 + 6 * q) .long i = some (.long ((li q).2.2.2.1 i.toNatClampNeg)) := ald_of (f := fun j => .long ((li q).2.2.2.1 j)) (hp_ct q hq) hi
theorem sT6_0 : stf (hp sc F s c th be qu mo li mm) 1 4 6 (.int 0) = some (hp sc F s c th be qu 0 li mm) := stf_of rfl (okF_bool rfl (Or.inl rfl)) (by decide) (Nat.le_of_ble_eq_true rfl) rfl
theorem sT6_1 : stf (hp sc F s c th be qu mo li mm) 1 4 6 (.int 1) = some (hp sc F s c th be qu 1 li mm) := stf_of rfl (okF_bool rfl (Or.inr rfl)) (by decide) (Nat.le_of_ble_eq_true rfl) rfl
theorem sF2 : stf (hp sc F s c th be qu mo li mm) 2 0 2 (.int v) = some (hp sc (F.1, F.2.1, v, F.2.2.2) s c th be qu mo li mm) := stf_of rfl (okF_int rfl) (by decide) (Nat.le_of_ble_eq_true rfl) rfl
theorem sF3 : stf (hp sc F s c th be qu mo li mm) 2 0 3 (.int v) = some (hp sc (F.1, F.2.1, F.2.2.1, v, F.2.2.2.2) s c th be qu mo li mm) := stf_of rfl (okF_int rfl) (by decide) (Nat.le_of_ble_eq_true rfl) rfl
theorem sF4_0 : stf (hp sc F s c th be qu mo li mm) 2 0 4 (.int 0) = some (hp sc (F.1, F.2.1, F.2.2.1, F.2.2.2.1, 0) s c th be qu mo li mm) := stf_of rfl (okF_bool rfl (Or.inl rfl)) (by decide) (Nat.le_of_ble_eq_true rfl) rfl
theorem sF4_1 : stf (hp sc F s c th be qu mo li mm) 2 0 4 (.int 1) = some (hp sc (F.1, F.2.1, F.2.2.1, F.2.2.2.1, 1) s c th be qu mo li mm) := stf_of rfl (okF_bool rfl (Or.inr rfl)) (by decide) (Nat.le_of_ble_eq_true rfl) rfl
theorem sS1 : stf (hp sc F s c th be qu mo li mm) 5 3 1 (.int v) = some (hp sc F (s.1, v) c th be qu mo li mm) := stf_of rfl (okF_int rfl) (by decide) (Nat.le_of_ble_eq_true rfl) rfl
theorem sC1 : stf (hp sc F s c th be qu mo li mm) 11 3 1 (.int v) = some (hp sc F s (c.1, v) th be qu mo li mm) := stf_of rfl (okF_int rfl) (by decide) (Nat.le_of_ble_eq_true rfl) rfl
theorem sL4 (hq : q < 8) : stf (hp sc F s c th be qu mo li mm) (14 + 6 * q) 2 4 (.int v) = some (hp sc F s c th be qu mo (upL li q ((li q).1, (li q).2.1, (li q).2.2.1, (li q).2.2.2.1, (v, (li q).2.2.2.2.2))) mm) := stf_of (hp_li q hq) (okF_int rfl) (by omega) (Nat.le_of_ble_eq_true rfl) (hp_setL q hq ((li q).1, (li q).2.1, (li q).2.2.1, (li q).2.2.2.1, (v, (li q).2.2.2.2.2)))
theorem sL5 (hq : q < 8) : stf (hp sc F s c th be qu mo li mm) (14 + 6 * q) 2 5 (.int v) = some (hp sc F s c th be qu mo (upL li q ((li q).1, (li q).2.1, (li q).2.2.1, (li q).2.2.2.1, ((li q).2.2.2.2.1, v, (li q).2.2.2.2.2.2))) mm) := stf_of (hp_li q hq) (okF_int rfl) (by omega) (Nat.le_of_ble_eq_true rfl) (hp_setL q hq ((li q).1, (li q).2.1, (li q).2.2.1, (li q).2.2.2.1, ((li q).2.2.2.2.1, v, (li q).2.2.2.2.2.2)))
theorem sL6 (hq : q < 8) : stf (hp sc F s c th be qu mo li mm) (14 + 6 * q) 2 6 (.int v) = some (hp sc F s c th be qu mo (upL li q ((li q).1, (li q).2.1, (li q).2.2.1, (li q).2.2.2.1, ((li q).2.2.2.2.1, (li q).2.2.2.2.2.1, v))) mm) := stf_of (hp_li q hq) (okF_int rfl) (by omega) (Nat.le_of_ble_eq_true rfl) (hp_setL q hq ((li q).1, (li q).2.1, (li q).2.2.1, (li q).2.2.2.1, ((li q).2.2.2.2.1, (li q).2.2.2.2.2.1, v)))
theorem t3 (hi : inB i 1024 = true) : ast (hp sc F s c th be qu mo li mm) 3 .int i (.int v) = some (hp sc (upd F.1 i.toNatClampNeg v, F.2) s c th be qu mo li mm) := ast_of (f := fun j => .int (F.1 j)) rfl hi (by decide) rfl (by rw [updV_int]; rfl)
theorem t4 (hi : inB i 16 = true) : ast (hp sc F s c th be qu mo li mm) 4 .int i (.int v) = some (hp sc (F.1, upd F.2.1 i.toNatClampNeg v, F.2.2) s c th be qu mo li mm) := ast_of (f := fun j => .int (F.2.1 j)) rfl hi (by decide) rfl (by rw [updV_int]; rfl)
theorem t6 (hi : inB i 64 = true) : ast (hp sc F s c th be qu mo li mm) 6 .int i (.int v) = some (hp sc F (upd s.1 i.toNatClampNeg v, s.2) c th be qu mo li mm) := ast_of (f := fun j => .int (s.1 j)) rfl hi (by decide) rfl (by rw [updV_int]; rfl)
theorem t10 (hi : inB i 8 = true) : ast (hp sc F s c th be qu mo li mm) 10 .int i (.int v) = some (hp sc F s c th be (upd qu i.toNatClampNeg v) mo li mm) := ast_of (f := fun j => .int (qu j)) rfl hi (by decide) rfl (by rw [updV_int]; rfl)
theorem t12 (hi : inB i 64 = true) : ast (hp sc F s c th be qu mo li mm) 12 .int i (.int v) = some (hp sc F s (upd c.1 i.toNatClampNeg v, c.2) th be qu mo li mm) := ast_of (f := fun j => .int (c.1 j)) rfl hi (by decide) rfl (by rw [updV_int]; rfl)
theorem t8_0 (hi : inB i 8 = true) : ast (hp sc F s c th be qu mo li mm) 8 .boolean i (.int 0) = some (hp sc F s c (upd th i.toNatClampNeg 0) be qu mo li mm) := ast_of (f := fun j => .int (th j)) rfl hi (by decide) (by decide) (by rw [updV_int]; rfl)
theorem t8_1 (hi : inB i 8 = true) : ast (hp sc F s c th be qu mo li mm) 8 .boolean i (.int 1) = some (hp sc F s c (upd th i.toNatClampNeg 1) be qu mo li mm) := ast_of (f := fun j => .int (th j)) rfl hi (by decide) (by decide) (by rw [updV_int]; rfl)
theorem t9_0 (hi : inB i 8 = true) : ast (hp sc F s c th be qu mo li mm) 9 .boolean i (.int 0) = some (hp sc F s c th (upd be i.toNatClampNeg 0) qu mo li mm) := ast_of (f := fun j => .int (be j)) rfl hi (by decide) (by decide) (by rw [updV_int]; rfl)
theorem t9_1 (hi : inB i 8 = true) : ast (hp sc F s c th be qu mo li mm) 9 .boolean i (.int 1) = some (hp sc F s c th (upd be i.toNatClampNeg 1) qu mo li mm) := ast_of (f := fun j => .int (be j)) rfl hi (by decide) (by decide) (by rw [updV_int]; rfl)
theorem tN (hq : q < 8) (hi : inB i 4 = true) : ast (hp sc F s c th be qu mo li mm) (15 + 6 * q) .int i (.int v) = some (hp sc F s c th be qu mo (upL li q (upd (li q).1 i.toNatClampNeg v, (li q).2)) mm) := ast_of (f := fun j => .int ((li q).1 j)) (hp_nm q hq) hi (by omega) rfl (by rw [updV_int]; exact hp_setN q hq _)
theorem tP (hq : q < 8) (hi : inB i 4 = true) : ast (hp sc F s c th be qu mo li mm) (16 + 6 * q) .int i (.int v) = some (hp sc F s c th be qu mo (upL li q ((li q).1, upd (li q).2.1 i.toNatClampNeg v, (li q).2.2)) mm) := ast_of (f := fun j => .int ((li q).2.1 j)) (hp_pr q hq) hi (by omega) rfl (by rw [updV_int]; exact hp_setP q hq _)
theorem tG (hq : q < 8) (hi : inB i 4 = true) : ast (hp sc F s c th be qu mo li mm) (17 + 6 * q) .int i (.int v) = some (hp sc F s c th be qu mo (upL li q ((li q).1, (li q).2.1, upd (li q).2.2.1 i.toNatClampNeg v, (li q).2.2.2)) mm) := ast_of (f := fun j => .int ((li q).2.2.1 j)) (hp_ln q hq) hi (by omega) rfl (by rw [updV_int]; exact hp_setG q hq _)
theorem tJ {z : Int64} (hq : q < 8) (hi : inB i 4 = true) : ast (hp sc F s c th be qu mo li mm) (18 + 6 * q) .long i (.long z) = some (hp sc F s c th be qu mo (upL li q ((li q).1, (li q).2.1, (li q).2.2.1, vp_updL (li q).2.2.2.1 i.toNatClampNeg z, (li q).2.2.2.2)) mm) := ast_of (f := fun j => .long ((li q).2.2.2.1 j)) (hp_ct q hq) hi (by omega) rfl (by rw [updV_long]; exact hp_setC q hq _)
end HROWS
