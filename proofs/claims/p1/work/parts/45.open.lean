/-! open: the class's own, then the reference's over its own cells alone -/
def hpM : AH := (273, (.branch 0 (.leaf none) (.branch 0 (.branch 0 (.leaf none) (.branch 0 (.branch 0 (.leaf none) (.branch 0 (.branch 0 (.leaf none) (.branch 0 (.branch 0 (.leaf none) (.branch 0 (.branch 0 (.leaf none) (.branch 0 (.branch 0 (.leaf none) (.branch 0 (.branch 0 (.leaf none) (.branch 0 (.branch 0 (.leaf (some (69, 2, some ((.leaf (0, 0)), (.leaf (0, 0))), (.leaf none)))) (.branch 0 (.leaf none) (.leaf none))) (.leaf none))) (.leaf none))) (.branch 0 (.leaf none) (.branch 0 (.leaf none) (.branch 0 (.leaf (some (37, 2, some ((.leaf (1, 0)), (.leaf (1, 0))), (.branch 0 (.leaf (some (.branch 22 (.branch 26 (.leaf (6, 0)) (.leaf (4, 0))) (.leaf (1, 281474976710655))))) (.branch 0 (.branch 0 (.leaf (some (.branch 22 (.branch 26 (.leaf (6, 1)) (.leaf (4, 0))) (.leaf (1, 281474976710655))))) (.branch 0 (.leaf none) (.leaf none))) (.leaf none)))))) (.branch 0 (.leaf none) (.leaf none))))))) (.branch 0 (.leaf none) (.branch 0 (.branch 0 (.leaf none) (.branch 0 (.branch 0 (.leaf none) (.branch 0 (.branch 0 (.leaf (some (85, 256, some ((.leaf (0, 0)), (.leaf (0, 0))), (.leaf none)))) (.branch 0 (.leaf none) (.leaf none))) (.leaf none))) (.leaf none))) (.branch 0 (.leaf none) (.branch 0 (.leaf none) (.branch 0 (.leaf (some (53, 192, some ((.leaf (0, 0)), (.leaf (0, 0))), (.leaf none)))) (.branch 0 (.leaf none) (.leaf none))))))))) (.branch 0 (.leaf none) (.branch 0 (.branch 0 (.leaf none) (.branch 0 (.branch 0 (.leaf none) (.branch 0 (.branch 0 (.leaf none) (.branch 0 (.branch 0 (.leaf (some (77, 2, some ((.leaf (0, 0)), (.leaf (0, 0))), (.leaf none)))) (.branch 0 (.leaf none) (.leaf none))) (.leaf none))) (.leaf none))) (.branch 0 (.leaf none) (.branch 0 (.leaf none) (.branch 0 (.leaf (some (45, 512, some ((.leaf (1, 0)), (.leaf (1, 0))), (.leaf none)))) (.branch 0 (.leaf none) (.leaf none))))))) (.branch 0 (.leaf none) (.branch 0 (.branch 0 (.leaf none) (.branch 0 (.leaf none) (.branch 0 (.leaf (some (12, 0, none, (.branch 0 (.leaf (some (.branch 0 (.leaf (0, 1)) (.branch 9 (.branch 0 (.branch 9 (.leaf (6, 2)) (.leaf (0, 5))) (.leaf (0, 5))) (.leaf (0, 5)))))) (.branch 0 (.branch 0 (.leaf none) (.branch 0 (.branch 0 (.leaf (some (.leaf (2, 216)))) (.branch 0 (.branch 0 (.leaf (some (.leaf (2, 220)))) (.branch 0 (.branch 0 (.leaf (some (.leaf (2, 227)))) (.branch 0 (.branch 0 (.leaf (some (.leaf (2, 243)))) (.branch 0 (.leaf none) (.leaf none))) (.branch 0 (.leaf (some (.leaf (2, 259)))) (.branch 0 (.leaf none) (.leaf none))))) (.branch 0 (.leaf (some (.leaf (2, 235)))) (.branch 0 (.branch 0 (.leaf (some (.leaf (2, 251)))) (.branch 0 (.leaf none) (.leaf none))) (.branch 0 (.leaf (some (.leaf (2, 267)))) (.branch 0 (.leaf none) (.leaf none))))))) (.branch 0 (.leaf (some (.leaf (2, 223)))) (.branch 0 (.branch 0 (.leaf (some (.leaf (2, 231)))) (.branch 0 (.branch 0 (.leaf (some (.leaf (2, 247)))) (.branch 0 (.leaf none) (.leaf none))) (.branch 0 (.leaf (some (.leaf (2, 263)))) (.branch 0 (.leaf none) (.leaf none))))) (.branch 0 (.leaf (some (.leaf (2, 239)))) (.branch 0 (.branch 0 (.leaf (some (.leaf (2, 255)))) (.branch 0 (.leaf none) (.leaf none))) (.leaf none))))))) (.branch 0 (.leaf (some (.leaf (2, 218)))) (.branch 0 (.branch 0 (.leaf (some (.leaf (2, 221)))) (.branch 0 (.branch 0 (.leaf (some (.leaf (2, 229)))) (.branch 0 (.branch 0 (.leaf (some (.leaf (2, 245)))) (.branch 0 (.leaf none) (.leaf none))) (.branch 0 (.leaf (some (.leaf (2, 261)))) (.branch 0 (.leaf none) (.leaf none))))) (.branch 0 (.leaf (some (.leaf (2, 237)))) (.branch 0 (.branch 0 (.leaf (some (.leaf (2, 253)))) (.branch 0 (.leaf none) (.leaf none))) (.leaf none))))) (.branch 0 (.leaf (some (.leaf (2, 225)))) (.branch 0 (.branch 0 (.leaf (some (.leaf (2, 233)))) (.branch 0 (.branch 0 (.leaf (some (.leaf (2, 249)))) (.branch 0 (.leaf none) (.leaf none))) (.branch 0 (.leaf (some (.leaf (2, 265)))) (.branch 0 (.leaf none) (.leaf none))))) (.branch 0 (.leaf (some (.leaf (2, 241)))) (.branch 0 (.branch 0 (.leaf (some (.leaf (2, 257)))) (.branch 0 (.leaf none) (.leaf none))) (.branch 0 (.leaf (some (.leaf (2, 270)))) (.branch 0 (.leaf none) (.leaf none))))))))))) (.branch 0 (.leaf none) (.branch 0 (.branch 0 (.leaf (some (.leaf (2, 217)))) (.branch 0 (.branch 0 (.leaf none) (.branch 0 (.branch 0 (.leaf (some (.leaf (2, 228)))) (.branch 0 (.branch 0 (.leaf (some (.leaf (2, 244)))) (.branch 0 (.branch 0 (.leaf (some (.leaf (2, 272)))) (.branch 0 (.leaf none) (.leaf none))) (.leaf none))) (.branch 0 (.leaf (some (.leaf (2, 260)))) (.branch 0 (.leaf none) (.leaf none))))) (.branch 0 (.leaf (some (.leaf (2, 236)))) (.branch 0 (.branch 0 (.leaf (some (.leaf (2, 252)))) (.branch 0 (.leaf none) (.leaf none))) (.branch 0 (.leaf (some (.leaf (2, 268)))) (.branch 0 (.leaf none) (.leaf none))))))) (.branch 0 (.leaf (some (.leaf (2, 224)))) (.branch 0 (.branch 0 (.leaf (some (.leaf (2, 232)))) (.branch 0 (.branch 0 (.leaf (some (.leaf (2, 248)))) (.branch 0 (.leaf none) (.leaf none))) (.branch 0 (.leaf (some (.leaf (2, 264)))) (.branch 0 (.leaf none) (.leaf none))))) (.branch 0 (.leaf (some (.leaf (2, 240)))) (.branch 0 (.branch 0 (.leaf (some (.leaf (2, 256)))) (.branch 0 (.leaf none) (.leaf none))) (.leaf none))))))) (.branch 0 (.leaf (some (.leaf (2, 219)))) (.branch 0 (.branch 0 (.leaf (some (.leaf (2, 222)))) (.branch 0 (.branch 0 (.leaf (some (.leaf (2, 230)))) (.branch 0 (.branch 0 (.leaf (some (.leaf (2, 246)))) (.branch 0 (.leaf none) (.leaf none))) (.branch 0 (.leaf (some (.leaf (2, 262)))) (.branch 0 (.leaf none) (.leaf none))))) (.branch 0 (.leaf (some (.leaf (2, 238)))) (.branch 0 (.branch 0 (.leaf (some (.leaf (2, 254)))) (.branch 0 (.leaf none) (.leaf none))) (.branch 0 (.leaf (some (.leaf (2, 269)))) (.branch 0 (.leaf none) (.leaf none))))))) (.branch 0 (.leaf (some (.leaf (2, 226)))) (.branch 0 (.branch 0 (.leaf (some (.leaf (2, 234)))) (.branch 0 (.branch 0 (.leaf (some (.leaf (2, 250)))) (.branch 0 (.leaf none) (.leaf none))) (.branch 0 (.leaf (some (.leaf (2, 266)))) (.branch 0 (.leaf none) (.leaf none))))) (.branch 0 (.leaf (some (.leaf (2, 242)))) (.branch 0 (.branch 0 (.leaf (some (.leaf (2, 258)))) (.branch 0 (.leaf none) (.leaf none))) (.branch 0 (.leaf (some (.leaf (2, 271)))) (.branch 0 (.leaf none) (.leaf none)))))))))))))))) (.branch 0 (.leaf none) (.leaf none))))) (.branch 0 (.leaf none) (.branch 0 (.leaf none) (.branch 0 (.leaf (some (61, 2, some ((.leaf (0, 0)), (.leaf (0, 0))), (.branch 0 (.leaf (some (.leaf (0, 64)))) (.branch 0 (.branch 0 (.leaf (some (.leaf (0, 64)))) (.branch 0 (.leaf none) (.leaf none))) (.leaf none)))))) (.branch 0 (.leaf none) (.leaf none))))))))))) (.branch 0 (.leaf none) (.branch 0 (.branch 0 (.leaf none) (.branch 0 (.branch 0 (.leaf none) (.branch 0 (.branch 0 (.leaf none) (.branch 0 (.branch 0 (.leaf none) (.branch 0 (.branch 0 (.leaf (some (73, 2, some ((.leaf (0, 0)), (.leaf (0, 0))), (.leaf none)))) (.branch 0 (.leaf none) (.leaf none))) (.leaf none))) (.leaf none))) (.branch 0 (.leaf none) (.branch 0 (.leaf none) (.branch 0 (.leaf (some (41, 2, some ((.leaf (1, 0)), (.leaf (1, 0))), (.leaf none)))) (.branch 0 (.leaf none) (.leaf none))))))) (.branch 0 (.leaf none) (.branch 0 (.leaf none) (.branch 0 (.leaf none) (.branch 0 (.leaf none) (.branch 0 (.leaf (some (57, 2, some ((.leaf (0, 0)), (.leaf (0, 0))), (.leaf none)))) (.branch 0 (.leaf none) (.leaf none))))))))) (.branch 0 (.leaf none) (.branch 0 (.branch 0 (.leaf none) (.branch 0 (.branch 0 (.leaf none) (.branch 0 (.branch 0 (.leaf none) (.branch 0 (.branch 0 (.leaf (some (81, 2, some ((.leaf (0, 0)), (.leaf (0, 0))), (.branch 0 (.leaf (some (.leaf (0, 4294967295)))) (.branch 0 (.branch 0 (.leaf (some (.leaf (0, 4294967295)))) (.branch 0 (.leaf none) (.leaf none))) (.leaf none)))))) (.branch 0 (.leaf none) (.leaf none))) (.leaf none))) (.leaf none))) (.branch 0 (.leaf none) (.branch 0 (.leaf none) (.branch 0 (.leaf (some (49, 20, some ((.leaf (0, 0)), (.leaf (0, 0))), (.leaf none)))) (.branch 0 (.leaf none) (.leaf none))))))) (.branch 0 (.leaf none) (.branch 0 (.branch 0 (.leaf none) (.branch 0 (.leaf none) (.branch 0 (.leaf (some (33, 15616, some ((.leaf (0, 0)), (.leaf (0, 0))), (.leaf none)))) (.branch 0 (.leaf none) (.leaf none))))) (.branch 0 (.leaf none) (.branch 0 (.leaf none) (.branch 0 (.leaf (some (65, 2, some ((.leaf (1, 0)), (.leaf (1, 0))), (.leaf none)))) (.branch 0 (.leaf none) (.leaf none))))))))))))) (.branch 0 (.leaf none) (.branch 0 (.branch 0 (.leaf none) (.branch 0 (.branch 0 (.leaf none) (.branch 0 (.branch 0 (.leaf none) (.branch 0 (.branch 0 (.leaf none) (.branch 0 (.branch 0 (.leaf none) (.branch 0 (.branch 0 (.leaf (some (71, 2, some ((.leaf (0, 0)), (.leaf (0, 0))), (.branch 0 (.leaf (some (.leaf (0, 4294967295)))) (.branch 0 (.branch 0 (.leaf (some (.leaf (0, 4294967295)))) (.branch 0 (.leaf none) (.leaf none))) (.leaf none)))))) (.branch 0 (.leaf none) (.leaf none))) (.leaf none))) (.leaf none))) (.branch 0 (.leaf none) (.branch 0 (.leaf none) (.branch 0 (.leaf (some (39, 2, some ((.leaf (1, 0)), (.leaf (1, 0))), (.leaf none)))) (.branch 0 (.leaf none) (.leaf none))))))) (.branch 0 (.leaf none) (.branch 0 (.leaf none) (.branch 0 (.leaf none) (.branch 0 (.leaf none) (.branch 0 (.leaf (some (55, 40, some ((.leaf (0, 0)), (.leaf (0, 0))), (.leaf none)))) (.branch 0 (.leaf none) (.leaf none))))))))) (.branch 0 (.leaf none) (.branch 0 (.branch 0 (.leaf none) (.branch 0 (.branch 0 (.leaf none) (.branch 0 (.branch 0 (.leaf none) (.branch 0 (.branch 0 (.leaf (some (79, 2, some ((.leaf (0, 0)), (.leaf (0, 0))), (.leaf none)))) (.branch 0 (.leaf none) (.leaf none))) (.leaf none))) (.leaf none))) (.branch 0 (.leaf none) (.branch 0 (.leaf none) (.branch 0 (.leaf (some (47, 20, some ((.leaf (0, 0)), (.leaf (0, 0))), (.branch 0 (.leaf none) (.branch 0 (.branch 0 (.leaf (some (.leaf (0, 1)))) (.branch 0 (.branch 0 (.leaf (some (.leaf (0, 2)))) (.branch 0 (.branch 0 (.leaf (some (.leaf (0, 1)))) (.branch 0 (.leaf none) (.leaf none))) (.branch 0 (.leaf (some (.leaf (0, 1)))) (.branch 0 (.branch 0 (.leaf (some (.leaf (0, 2)))) (.branch 0 (.leaf none) (.leaf none))) (.leaf none))))) (.branch 0 (.leaf none) (.branch 0 (.branch 0 (.leaf (some (.leaf (0, 2)))) (.branch 0 (.branch 0 (.leaf (some (.leaf (0, 1)))) (.branch 0 (.leaf none) (.leaf none))) (.leaf none))) (.branch 0 (.leaf (some (.leaf (0, 2)))) (.branch 0 (.leaf none) (.leaf none))))))) (.branch 0 (.leaf (some (.leaf (0, 1)))) (.branch 0 (.branch 0 (.leaf (some (.leaf (0, 2)))) (.branch 0 (.branch 0 (.leaf (some (.leaf (0, 2)))) (.branch 0 (.branch 0 (.leaf (some (.leaf (0, 1)))) (.branch 0 (.leaf none) (.leaf none))) (.leaf none))) (.branch 0 (.leaf (some (.leaf (0, 1)))) (.branch 0 (.leaf none) (.leaf none))))) (.branch 0 (.leaf (some (.leaf (0, 1)))) (.branch 0 (.branch 0 (.leaf none) (.branch 0 (.branch 0 (.leaf (some (.leaf (0, 2)))) (.branch 0 (.leaf none) (.leaf none))) (.leaf none))) (.branch 0 (.leaf (some (.leaf (0, 2)))) (.branch 0 (.leaf none) (.leaf none)))))))))))) (.branch 0 (.leaf none) (.leaf none))))))) (.branch 0 (.leaf none) (.branch 0 (.branch 0 (.leaf none) (.branch 0 (.leaf none) (.branch 0 (.leaf (some (31, 61, some ((.leaf (0, 0)), (.leaf (0, 0))), (.leaf none)))) (.branch 0 (.leaf none) (.leaf none))))) (.branch 0 (.leaf none) (.branch 0 (.leaf none) (.branch 0 (.leaf (some (63, 2, some ((.leaf (0, 0)), (.leaf (0, 0))), (.leaf none)))) (.branch 0 (.leaf none) (.leaf none))))))))))) (.branch 0 (.leaf none) (.branch 0 (.branch 0 (.leaf none) (.branch 0 (.branch 0 (.leaf none) (.branch 0 (.branch 0 (.leaf none) (.branch 0 (.branch 0 (.leaf none) (.branch 0 (.branch 0 (.leaf (some (75, 2, some ((.leaf (0, 0)), (.leaf (0, 0))), (.leaf none)))) (.branch 0 (.leaf none) (.leaf none))) (.leaf none))) (.leaf none))) (.branch 0 (.leaf none) (.branch 0 (.leaf none) (.branch 0 (.leaf (some (43, 512, some ((.leaf (0, 0)), (.leaf (0, 0))), (.leaf none)))) (.branch 0 (.leaf none) (.leaf none))))))) (.branch 0 (.leaf none) (.branch 0 (.leaf none) (.branch 0 (.leaf none) (.branch 0 (.leaf none) (.branch 0 (.leaf (some (59, 3200, some ((.leaf (0, 0)), (.leaf (0, 0))), (.leaf none)))) (.branch 0 (.leaf none) (.leaf none))))))))) (.branch 0 (.leaf none) (.branch 0 (.branch 0 (.leaf none) (.branch 0 (.branch 0 (.leaf none) (.branch 0 (.branch 0 (.leaf none) (.branch 0 (.branch 0 (.leaf (some (83, 256, some ((.leaf (0, 0)), (.leaf (0, 0))), (.leaf none)))) (.branch 0 (.leaf none) (.leaf none))) (.leaf none))) (.leaf none))) (.branch 0 (.leaf none) (.branch 0 (.leaf none) (.branch 0 (.leaf (some (51, 20, some ((.leaf (1, 0)), (.leaf (1, 0))), (.leaf none)))) (.branch 0 (.leaf none) (.leaf none))))))) (.branch 0 (.leaf none) (.branch 0 (.branch 0 (.leaf none) (.branch 0 (.leaf none) (.branch 0 (.leaf (some (35, 2, some ((.leaf (0, 0)), (.leaf (0, 0))), (.leaf none)))) (.branch 0 (.leaf none) (.leaf none))))) (.branch 0 (.leaf none) (.branch 0 (.leaf none) (.branch 0 (.leaf (some (67, 2, some ((.leaf (0, 0)), (.leaf (0, 0))), (.leaf none)))) (.branch 0 (.leaf none) (.leaf none))))))))))))))) (.branch 0 (.leaf none) (.branch 0 (.branch 0 (.leaf none) (.branch 0 (.branch 0 (.leaf none) (.branch 0 (.branch 0 (.leaf none) (.branch 0 (.branch 0 (.leaf none) (.branch 0 (.branch 0 (.leaf none) (.branch 0 (.branch 0 (.leaf none) (.branch 0 (.branch 0 (.leaf (some (70, 2, some ((.leaf (0, 0)), (.leaf (0, 0))), (.leaf none)))) (.branch 0 (.leaf none) (.leaf none))) (.leaf none))) (.leaf none))) (.branch 0 (.leaf none) (.branch 0 (.leaf none) (.branch 0 (.leaf (some (38, 2, some ((.leaf (0, 0)), (.leaf (0, 0))), (.leaf none)))) (.branch 0 (.leaf none) (.leaf none))))))) (.branch 0 (.leaf none) (.branch 0 (.branch 0 (.leaf none) (.branch 0 (.branch 0 (.leaf none) (.branch 0 (.branch 0 (.leaf (some (86, 256, some ((.leaf (0, 0)), (.leaf (0, 0))), (.leaf none)))) (.branch 0 (.leaf none) (.leaf none))) (.leaf none))) (.leaf none))) (.branch 0 (.leaf none) (.branch 0 (.leaf none) (.branch 0 (.leaf (some (54, 2, some ((.leaf (0, 0)), (.leaf (0, 0))), (.leaf none)))) (.branch 0 (.leaf none) (.leaf none))))))))) (.branch 0 (.leaf none) (.branch 0 (.branch 0 (.leaf none) (.branch 0 (.branch 0 (.leaf none) (.branch 0 (.branch 0 (.leaf none) (.branch 0 (.branch 0 (.leaf (some (78, 2, some ((.leaf (0, 0)), (.leaf (0, 0))), (.leaf none)))) (.branch 0 (.leaf none) (.leaf none))) (.leaf none))) (.leaf none))) (.branch 0 (.leaf none) (.branch 0 (.leaf none) (.branch 0 (.leaf (some (46, 20, some ((.leaf (0, 0)), (.leaf (0, 0))), (.branch 0 (.leaf none) (.branch 0 (.branch 0 (.leaf (some (.leaf (0, 100)))) (.branch 0 (.branch 0 (.leaf (some (.leaf (0, 1)))) (.branch 0 (.branch 0 (.leaf (some (.leaf (0, 2)))) (.branch 0 (.leaf none) (.leaf none))) (.branch 0 (.leaf (some (.leaf (0, 100)))) (.branch 0 (.branch 0 (.leaf (some (.leaf (0, 1)))) (.branch 0 (.leaf none) (.leaf none))) (.leaf none))))) (.branch 0 (.leaf none) (.branch 0 (.branch 0 (.leaf (some (.leaf (0, 1)))) (.branch 0 (.branch 0 (.leaf (some (.leaf (0, 2)))) (.branch 0 (.leaf none) (.leaf none))) (.leaf none))) (.branch 0 (.leaf (some (.leaf (0, 1)))) (.branch 0 (.leaf none) (.leaf none))))))) (.branch 0 (.leaf (some (.leaf (0, 2)))) (.branch 0 (.branch 0 (.leaf (some (.leaf (0, 1)))) (.branch 0 (.branch 0 (.leaf (some (.leaf (0, 1)))) (.branch 0 (.branch 0 (.leaf (some (.leaf (0, 100)))) (.branch 0 (.leaf none) (.leaf none))) (.leaf none))) (.branch 0 (.leaf (some (.leaf (0, 2)))) (.branch 0 (.leaf none) (.leaf none))))) (.branch 0 (.leaf (some (.leaf (0, 100)))) (.branch 0 (.branch 0 (.leaf none) (.branch 0 (.branch 0 (.leaf (some (.leaf (0, 1)))) (.branch 0 (.leaf none) (.leaf none))) (.leaf none))) (.branch 0 (.leaf (some (.leaf (0, 1)))) (.branch 0 (.leaf none) (.leaf none)))))))))))) (.branch 0 (.leaf none) (.leaf none))))))) (.branch 0 (.leaf none) (.branch 0 (.branch 0 (.leaf none) (.branch 0 (.leaf none) (.branch 0 (.leaf (some (30, 61, some ((.leaf (0, 0)), (.leaf (0, 0))), (.leaf none)))) (.branch 0 (.leaf none) (.leaf none))))) (.branch 0 (.leaf none) (.branch 0 (.leaf none) (.branch 0 (.leaf (some (62, 2, some ((.leaf (0, 0)), (.leaf (0, 0))), (.branch 0 (.leaf (some (.leaf (0, 8)))) (.branch 0 (.branch 0 (.leaf (some (.leaf (0, 8)))) (.branch 0 (.leaf none) (.leaf none))) (.leaf none)))))) (.branch 0 (.leaf none) (.leaf none))))))))))) (.branch 0 (.leaf none) (.branch 0 (.branch 0 (.leaf none) (.branch 0 (.branch 0 (.leaf none) (.branch 0 (.branch 0 (.leaf none) (.branch 0 (.branch 0 (.leaf none) (.branch 0 (.branch 0 (.leaf (some (74, 2, some ((.leaf (0, 0)), (.leaf (0, 0))), (.leaf none)))) (.branch 0 (.leaf none) (.leaf none))) (.leaf none))) (.leaf none))) (.branch 0 (.leaf none) (.branch 0 (.leaf none) (.branch 0 (.leaf (some (42, 512, some ((.leaf (0, 0)), (.leaf (0, 0))), (.leaf none)))) (.branch 0 (.leaf none) (.leaf none))))))) (.branch 0 (.leaf none) (.branch 0 (.leaf none) (.branch 0 (.leaf none) (.branch 0 (.leaf none) (.branch 0 (.leaf (some (58, 80, some ((.leaf (0, 0)), (.leaf (0, 0))), (.leaf none)))) (.branch 0 (.leaf none) (.leaf none))))))))) (.branch 0 (.leaf none) (.branch 0 (.branch 0 (.leaf none) (.branch 0 (.branch 0 (.leaf none) (.branch 0 (.branch 0 (.leaf none) (.branch 0 (.branch 0 (.leaf (some (82, 4, some ((.leaf (0, 0)), (.leaf (0, 0))), (.leaf none)))) (.branch 0 (.leaf none) (.leaf none))) (.leaf none))) (.leaf none))) (.branch 0 (.leaf none) (.branch 0 (.leaf none) (.branch 0 (.leaf (some (50, 20, some ((.leaf (0, 0)), (.leaf (0, 0))), (.leaf none)))) (.branch 0 (.leaf none) (.leaf none))))))) (.branch 0 (.leaf none) (.branch 0 (.branch 0 (.leaf none) (.branch 0 (.leaf none) (.branch 0 (.leaf (some (34, 220, some ((.leaf (0, 0)), (.leaf (0, 0))), (.leaf none)))) (.branch 0 (.leaf none) (.leaf none))))) (.branch 0 (.leaf none) (.branch 0 (.leaf none) (.branch 0 (.leaf (some (66, 2, some ((.leaf (0, 0)), (.leaf (0, 0))), (.leaf none)))) (.branch 0 (.leaf none) (.leaf none))))))))))))) (.branch 0 (.leaf none) (.branch 0 (.branch 0 (.leaf none) (.branch 0 (.branch 0 (.leaf none) (.branch 0 (.branch 0 (.leaf none) (.branch 0 (.branch 0 (.leaf none) (.branch 0 (.branch 0 (.leaf none) (.branch 0 (.branch 0 (.leaf (some (72, 2, some ((.leaf (0, 0)), (.leaf (0, 0))), (.leaf none)))) (.branch 0 (.leaf none) (.leaf none))) (.leaf none))) (.leaf none))) (.branch 0 (.leaf none) (.branch 0 (.leaf none) (.branch 0 (.leaf (some (40, 2, some ((.leaf (1, 0)), (.leaf (1, 0))), (.leaf none)))) (.branch 0 (.leaf none) (.leaf none))))))) (.branch 0 (.leaf none) (.branch 0 (.leaf none) (.branch 0 (.leaf none) (.branch 0 (.leaf none) (.branch 0 (.leaf (some (56, 1600, some ((.leaf (0, 0)), (.leaf (0, 0))), (.leaf none)))) (.branch 0 (.leaf none) (.leaf none))))))))) (.branch 0 (.leaf none) (.branch 0 (.branch 0 (.leaf none) (.branch 0 (.branch 0 (.leaf none) (.branch 0 (.branch 0 (.leaf none) (.branch 0 (.branch 0 (.leaf (some (80, 2, some ((.leaf (0, 0)), (.leaf (0, 0))), (.branch 0 (.leaf (some (.leaf (0, 4294967295)))) (.branch 0 (.branch 0 (.leaf (some (.leaf (0, 4294967295)))) (.branch 0 (.leaf none) (.leaf none))) (.leaf none)))))) (.branch 0 (.leaf none) (.leaf none))) (.leaf none))) (.leaf none))) (.branch 0 (.leaf none) (.branch 0 (.leaf none) (.branch 0 (.leaf (some (48, 60, some ((.leaf (0, 0)), (.leaf (0, 0))), (.branch 0 (.leaf none) (.branch 0 (.branch 0 (.leaf none) (.branch 0 (.branch 0 (.leaf (some (.leaf (0, 100)))) (.branch 0 (.branch 0 (.leaf (some (.leaf (0, 2)))) (.branch 0 (.leaf none) (.branch 0 (.leaf none) (.branch 0 (.branch 0 (.leaf (some (.leaf (0, 1)))) (.branch 0 (.leaf none) (.leaf none))) (.leaf none))))) (.branch 0 (.leaf none) (.branch 0 (.branch 0 (.leaf (some (.leaf (0, 2)))) (.branch 0 (.leaf none) (.branch 0 (.leaf (some (.leaf (0, 2)))) (.branch 0 (.leaf none) (.leaf none))))) (.branch 0 (.leaf (some (.leaf (0, 1)))) (.branch 0 (.branch 0 (.leaf (some (.leaf (0, 2)))) (.branch 0 (.leaf none) (.leaf none))) (.leaf none))))))) (.branch 0 (.leaf none) (.branch 0 (.branch 0 (.leaf (some (.leaf (0, 1)))) (.branch 0 (.branch 0 (.leaf none) (.branch 0 (.branch 0 (.leaf (some (.leaf (0, 100)))) (.branch 0 (.leaf none) (.leaf none))) (.branch 0 (.leaf (some (.leaf (0, 2)))) (.branch 0 (.leaf none) (.leaf none))))) (.branch 0 (.leaf none) (.branch 0 (.leaf none) (.branch 0 (.leaf (some (.leaf (0, 1)))) (.branch 0 (.leaf none) (.leaf none))))))) (.branch 0 (.leaf (some (.leaf (0, 2)))) (.branch 0 (.branch 0 (.leaf (some (.leaf (0, 2)))) (.branch 0 (.branch 0 (.leaf (some (.leaf (0, 2)))) (.branch 0 (.leaf none) (.leaf none))) (.leaf none))) (.leaf none))))))) (.branch 0 (.leaf none) (.branch 0 (.branch 0 (.leaf (some (.leaf (0, 2)))) (.branch 0 (.branch 0 (.leaf none) (.branch 0 (.branch 0 (.leaf none) (.branch 0 (.leaf none) (.branch 0 (.leaf (some (.leaf (0, 100)))) (.branch 0 (.leaf none) (.leaf none))))) (.branch 0 (.leaf (some (.leaf (0, 1)))) (.branch 0 (.leaf none) (.leaf none))))) (.branch 0 (.leaf (some (.leaf (0, 1)))) (.branch 0 (.branch 0 (.leaf none) (.branch 0 (.branch 0 (.leaf (some (.leaf (0, 2)))) (.branch 0 (.leaf none) (.leaf none))) (.branch 0 (.leaf (some (.leaf (0, 2)))) (.branch 0 (.leaf none) (.leaf none))))) (.branch 0 (.leaf (some (.leaf (0, 2)))) (.branch 0 (.leaf none) (.leaf none))))))) (.branch 0 (.leaf (some (.leaf (0, 2)))) (.branch 0 (.branch 0 (.leaf none) (.branch 0 (.branch 0 (.leaf (some (.leaf (0, 100)))) (.branch 0 (.branch 0 (.leaf (some (.leaf (0, 2)))) (.branch 0 (.leaf none) (.leaf none))) (.leaf none))) (.branch 0 (.leaf none) (.branch 0 (.branch 0 (.leaf (some (.leaf (0, 1)))) (.branch 0 (.leaf none) (.leaf none))) (.branch 0 (.leaf (some (.leaf (0, 2)))) (.branch 0 (.leaf none) (.leaf none))))))) (.branch 0 (.leaf none) (.branch 0 (.branch 0 (.leaf (some (.leaf (0, 2)))) (.branch 0 (.leaf none) (.branch 0 (.leaf (some (.leaf (0, 1)))) (.branch 0 (.leaf none) (.leaf none))))) (.leaf none)))))))))))) (.branch 0 (.leaf none) (.leaf none))))))) (.branch 0 (.leaf none) (.branch 0 (.branch 0 (.leaf none) (.branch 0 (.leaf none) (.branch 0 (.leaf (some (32, 61, some ((.leaf (0, 0)), (.leaf (0, 0))), (.leaf none)))) (.branch 0 (.leaf none) (.leaf none))))) (.branch 0 (.leaf none) (.branch 0 (.leaf none) (.branch 0 (.leaf (some (64, 2, some ((.leaf (0, 0)), (.leaf (0, 0))), (.leaf none)))) (.branch 0 (.leaf none) (.leaf none))))))))))) (.branch 0 (.leaf none) (.branch 0 (.branch 0 (.leaf none) (.branch 0 (.branch 0 (.leaf none) (.branch 0 (.branch 0 (.leaf none) (.branch 0 (.branch 0 (.leaf none) (.branch 0 (.branch 0 (.leaf (some (76, 2, some ((.leaf (0, 0)), (.leaf (0, 0))), (.leaf none)))) (.branch 0 (.leaf none) (.leaf none))) (.leaf none))) (.leaf none))) (.branch 0 (.leaf none) (.branch 0 (.leaf none) (.branch 0 (.leaf (some (44, 512, some ((.leaf (0, 0)), (.leaf (0, 0))), (.leaf none)))) (.branch 0 (.leaf none) (.leaf none))))))) (.branch 0 (.leaf none) (.branch 0 (.leaf none) (.branch 0 (.leaf none) (.branch 0 (.leaf none) (.branch 0 (.leaf (some (60, 2, some ((.leaf (0, 0)), (.leaf (0, 0))), (.branch 0 (.leaf (some (.leaf (0, 3)))) (.branch 0 (.branch 0 (.leaf (some (.leaf (0, 3)))) (.branch 0 (.leaf none) (.leaf none))) (.leaf none)))))) (.branch 0 (.leaf none) (.leaf none))))))))) (.branch 0 (.leaf none) (.branch 0 (.branch 0 (.leaf none) (.branch 0 (.branch 0 (.leaf none) (.branch 0 (.branch 0 (.leaf none) (.branch 0 (.branch 0 (.leaf (some (84, 40, some ((.leaf (0, 0)), (.leaf (0, 0))), (.leaf none)))) (.branch 0 (.leaf none) (.leaf none))) (.leaf none))) (.leaf none))) (.branch 0 (.leaf none) (.branch 0 (.leaf none) (.branch 0 (.leaf (some (52, 2, some ((.leaf (0, 0)), (.leaf (0, 0))), (.leaf none)))) (.branch 0 (.leaf none) (.leaf none))))))) (.branch 0 (.leaf none) (.branch 0 (.branch 0 (.leaf none) (.branch 0 (.leaf none) (.branch 0 (.leaf (some (36, 2, some ((.leaf (1, 0)), (.leaf (1, 0))), (.branch 0 (.leaf (some (.branch 22 (.branch 26 (.leaf (6, 0)) (.leaf (4, 0))) (.leaf (1, 281474976710655))))) (.branch 0 (.branch 0 (.leaf (some (.branch 22 (.branch 26 (.leaf (6, 1)) (.leaf (4, 0))) (.leaf (1, 281474976710655))))) (.branch 0 (.leaf none) (.leaf none))) (.leaf none)))))) (.branch 0 (.leaf none) (.leaf none))))) (.branch 0 (.leaf none) (.branch 0 (.leaf none) (.branch 0 (.leaf (some (68, 2, some ((.leaf (0, 0)), (.leaf (0, 0))), (.leaf none)))) (.branch 0 (.leaf none) (.leaf none))))))))))))))))))
def subH (A K : AH) : Bool := Nat.beq A.1 K.1 && (tL A.2).all (fun q => match tG K.2 q.1 with
  | some d => cB q.2 d
  | none => false)
theorem subH_ok {A K : AH} (h : subH A K = true) : A.1 = K.1 ∧ ∀ o c, tG A.2 o = some c → tG K.2 o = some c := by
  unfold subH at h
  rw [Bool.and_eq_true] at h
  refine ⟨Nat.eq_of_beq_eq_true h.1, fun o c hc => ?_⟩
  have z := List.all_eq_true.mp h.2 _ (tL_ok hc)
  simp only [] at z
  split at z
  · rename_i d hd
    rw [hd, cB_ok _ _ z]
  · cases z
def openOut (o : OUT) : Bool := (match o.2.1 with
  | some a => aB a (kI 1)
  | none => false) && subH hpM o.2.2
def openAll (o : Option (List OUT)) : Bool := match o with
  | some l => l.all openOut
  | none => false
/-! an own packet without a VECTOR is noted at a place that hangs on the script: the places of that row are named -/
def nT : Nat → TR AE
  | 0 => tE
  | n + 1 => tS 13 (nT n) n (kW n)
theorem nT_at : ∀ (n : Nat), n ≤ 4096 → ∀ j, tG (nT n) j = if j < n then some (kW j) else none
  | 0, _, j => by rw [if_neg (Nat.not_lt_zero j)]; rfl
  | n + 1, hn, j => by
    show tG (tS 13 (nT n) n (kW n)) j = _
    rw [tG_set 13 (nT n) n (kW n) j (by have : (2 : Nat) ^ 13 = 8192 := rfl; omega), nT_at n (by omega) j]
    by_cases e : j = n
    · rw [if_pos e, if_pos (by omega), e]
    · rw [if_neg e]
      by_cases e2 : j < n
      · rw [if_pos e2, if_pos (by omega)]
      · rw [if_neg e2, if_neg (by omega)]
def nT4 : TR AE := nT 4096
theorem nT4_at (j : Nat) : tG nT4 j = if j < 4096 then some (kW j) else none := nT_at 4096 (Nat.le_refl _) j
def ownE : AE := kO 22 (kU 26 (kV 0)) (kL 281474976710655)
def ownI : AE := kU 12 (kO 22 ownE (kL 4095))
def ownJ (x : Int32) : Nat := (((x.toInt64 &&& lN 281474976710655) &&& lN 4095).toInt32).toNatClampNeg
def sNote (as : List AE) (H : AH) : Option (Option AE × AH) := match as with
  | [.leaf (2, o), e, .leaf (0, 0)] => (match tG H.2 o with
    | some c => (match cA c 5 with
      | .leaf (2, q) => (match tG H.2 q with
        | some (k, m, some (x, b), .leaf none) => bif Nat.beq c.1 kd_Re && (aB e ownE && (kdIs k .long && (Nat.beq m 4096 && (aB x (kL 0) && Nat.blt (q + 1) 4096)))) then some (none, (H.1, tS 12 H.2 q (k, m, some (x, b), nT4))) else none
        | _ => none)
      | _ => none)
    | none => none)
  | _ => none
def axSo : AXS := fun z as H => bif Nat.beq z y_Re_noteOwn then sNote as H else axS z as H
section NOTE
variable {D : ft_G} {ρ : Nat → Int32} {σ : Nat → Int64} {h0 : ft_H}
set_option maxRecDepth 100000 in
theorem t_noteOwn {h : ft_H} {a b j : Nat} {x : Int64} (hk : (h.2.1 a).1 = kd_Re) (p : h.1 a 5 = .ref b) (kb : ft_kd (h.2.1 b).1 = some (.inr .long)) (lb : (h.2.1 b).2 = 4096) (hB : ft_B D ≤ b) (hj : j < 4096) (ej : (x &&& lN 4095).toInt32 = nI j) : sm D y_Re_noteOwn 0 (lv_args 0 [.ref a, .long x, .int (nI 0)]) [] h 0 0 (fun v h' => v = none ∧ h' = ft_set h b j (.long (lN 18446744073709551615))) := by
  have ec : ((x &&& lN 4095).toInt32).toNatClampNeg = j := by rw [ej]; exact clampE (by omega)
  refine ft_run_ok k_Re_noteOwn 7 _ _ _ _ [.ref b] rfl ⟨hk, p, trivial⟩ ?_
  refine r_if k_Re_noteOwn rfl rfl (fun c1 => ?_) (fun c1 => ?_)
  · refine ft_run_ok k_Re_noteOwn 2 _ _ _ _ [] rfl ⟨kb, hB, ?_, trivial⟩ ?_
    · show vp_in ((x &&& lN 4095).toInt32) (h.2.1 b).2
      rw [lb, ej]
      exact vpE hj (by decide)
    · exact r_ret (v := none) k_Re_noteOwn rfl trivial (Nat.le_of_ble_eq_true rfl) (Nat.le_of_ble_eq_true rfl) ⟨rfl, congrArg (fun q => ft_set h b q (.long (lN 18446744073709551615))) ec⟩
  · exact absurd (show nI 0 = 0 from by decide) c1
theorem note_row {H : AH} {q k j : Nat} {b : AE} {T : TR AE} (hT : ∀ i, tG T i = if i < 4096 then some (kW i) else none) (hc : tG H.2 q = some (k, 4096, some (kL 0, b), tE)) (hj : j < 4096) (hs : ∀ i, σ i = if i = j then lN 18446744073709551615 else lN 0) : ft_set (hD D ρ σ h0 H) (ft_B D + q) j (.long (lN 18446744073709551615)) = ft_row (hD D ρ σ h0 H) (ft_B D + q) (fun i => aD D ρ σ (cA (k, 4096, some (kL 0, b), T) i)) := by
  refine Prod.ext ?_ rfl
  funext a i
  show (if a = ft_B D + q ∧ i = j then (.long (lN 18446744073709551615) : Value) else (hD D ρ σ h0 H).1 a i) = (if a = ft_B D + q then aD D ρ σ (cA (k, 4096, some (kL 0, b), T) i) else (hD D ρ σ h0 H).1 a i)
  by_cases e : a = ft_B D + q
  · subst e
    rw [if_pos (rfl : ft_B D + q = ft_B D + q), hD_V hc, cA_unif]
    have t := hT i
    by_cases e2 : i < 4096
    · rw [if_pos e2] at t
      have cw : cA (k, 4096, some (kL 0, b), T) i = kW i := by
        show (match tG T i with
          | some a => a
          | none => bif Nat.blt i 4096 then kL 0 else b) = kW i
        rw [t]
      rw [cw, if_pos e2, show aD D ρ σ (kW i) = .long (σ i) from rfl, hs i]
      by_cases e3 : i = j
      · rw [if_pos (show ft_B D + q = ft_B D + q ∧ i = j from ⟨rfl, e3⟩), if_pos e3]
      · rw [if_neg (show ¬ (ft_B D + q = ft_B D + q ∧ i = j) from fun z => e3 z.2), if_neg e3] <;> rfl
    · rw [if_neg e2] at t
      have cw : cA (k, 4096, some (kL 0, b), T) i = b := by
        show (match tG T i with
          | some a => a
          | none => bif Nat.blt i 4096 then kL 0 else b) = b
        rw [t]
        show (bif Nat.blt i 4096 then kL 0 else b) = b
        cases hb : Nat.blt i 4096 with
        | true => exact absurd (blt_lt hb) e2
        | false => rfl
      rw [cw, if_neg e2, if_neg (show ¬ (ft_B D + q = ft_B D + q ∧ i = j) from fun z => e2 (by rw [z.2]; exact hj))]
  · rw [if_neg (show ¬ (a = ft_B D + q ∧ i = j) from fun z => e z.1), if_neg e]
theorem ownI_ok : ∃ j, (eP ρ σ ownI).1 = nI j ∧ j < 4096 := by
  obtain ⟨-, j, h1, h2, -⟩ := idxB_ok (ρ := ρ) (σ := σ) (B := []) (e := ownI) (m := 4096) (fun q hq => by cases hq) (by decide +kernel)
  exact ⟨j, h1, h2⟩
theorem axSo_ok (h9 : ρ 9 = ftFm5 (ρ 2)) (hs0 : ∀ i, σ i = if i = ownJ (ρ 0) then lN 18446744073709551615 else lN 0) : SOK D ρ σ h0 axSo := by
  intro z as H v H' hs
  unfold axSo at hs
  cases z1 : Nat.beq z y_Re_noteOwn with
  | false =>
    rw [z1] at hs
    exact axS_ok h9 z as H v H' hs
  | true =>
    rw [z1] at hs
    simp only [cond_true] at hs
    have ez := Nat.eq_of_beq_eq_true z1
    subst ez
    unfold sNote at hs
    split at hs
    · rename_i o e
      split at hs
      · rename_i c hcl
        split at hs
        · rename_i q hq0
          split at hs
          · rename_i k m x b hc
            cases hb : (Nat.beq c.1 kd_Re && (aB e ownE && (kdIs k .long && (Nat.beq m 4096 && (aB x (kL 0) && Nat.blt (q + 1) 4096))))) with
            | false => rw [hb] at hs; cases hs
            | true =>
              rw [hb] at hs
              cases hs
              rw [Bool.and_eq_true, Bool.and_eq_true, Bool.and_eq_true, Bool.and_eq_true, Bool.and_eq_true] at hb
              have ee := aB_ok hb.2.1
              have ex := aB_ok hb.2.2.2.2.1
              have em := Nat.eq_of_beq_eq_true hb.2.2.2.1
              subst ee
              subst ex
              subst em
              have hK := hD_K (D := D) (ρ := ρ) (σ := σ) (h0 := h0) hcl
              have hKq := hD_K (D := D) (ρ := ρ) (σ := σ) (h0 := h0) hc
              obtain ⟨j, ej, hj⟩ := ownI_ok (ρ := ρ) (σ := σ)
              have eJ : ownJ (ρ 0) = j := by
                show ((eP ρ σ ownI).1).toNatClampNeg = j
                rw [ej]; exact clampE (by omega)
              refine sm.mono (t_noteOwn (D := D) (h := hD D ρ σ h0 H) (a := ft_B D + o) (b := ft_B D + q) (j := j) (x := (eP ρ σ ownE).2) (by rw [hK]; exact Nat.eq_of_beq_eq_true hb.1) (by rw [hD_V hcl, hq0]; rfl) (by rw [hKq]; exact kdIs_ok hb.2.2.1) (by rw [hKq]) (by omega) hj ej) ?_
              rintro v h' ⟨rfl, rfl⟩
              refine ⟨rfl, ?_⟩
              rw [hD_upd (c' := (k, 4096, some (kL 0, b), nT4)) hc rfl rfl (blt_lt hb.2.2.2.2.2)]
              exact note_row nT4_at hc hj (fun i => by rw [← eJ]; exact hs0 i)
          · cases hs
        · cases hs
      · cases hs
    · cases hs
end NOTE
set_option maxRecDepth 100000 in
theorem run_openF : openAll (ax axSo axC (0, []) 60000 [] y_F_open mr_F_open 0 [(0, .leaf (2, 0))] [] hp3 0 0) = true := by decide +kernel
set_option maxRecDepth 100000 in
theorem run_openM : allOne (ax axS axC (0, []) 60000 [] y_M_open mr_M_open 0 [(0, .leaf (2, 215))] [] hpM 0 0) = true := by decide +kernel
section OPEN
variable {D : ft_G} {ρ : Nat → Int32} {σ : Nat → Int64} {h0 : ft_H}
theorem hD_sub {A K : AH} (hs : subH A K = true) : hD D ρ σ (hD D ρ σ h0 K) A = hD D ρ σ h0 K := by
  obtain ⟨hn, hc⟩ := subH_ok hs
  refine Prod.ext ?_ (Prod.ext ?_ (by show ft_B D + A.1 = ft_B D + K.1; rw [hn]))
  · funext b j
    show (if b < ft_B D then _ else _) = _
    by_cases hlt : b < ft_B D
    · rw [if_pos hlt]
    · rw [if_neg hlt]
      cases hA : tG A.2 (b - ft_B D) with
      | none => rfl
      | some c =>
        have e := hD_V (D := D) (ρ := ρ) (σ := σ) (h0 := h0) (hc _ _ hA) j
        rw [show ft_B D + (b - ft_B D) = b from by omega] at e
        exact e.symm
  · funext b
    show (if b < ft_B D then _ else _) = _
    by_cases hlt : b < ft_B D
    · rw [if_pos hlt]
    · rw [if_neg hlt]
      cases hA : tG A.2 (b - ft_B D) with
      | none => rfl
      | some c =>
        have e := hD_K (D := D) (ρ := ρ) (σ := σ) (h0 := h0) (hc _ _ hA)
        rw [show ft_B D + (b - ft_B D) = b from by omega] at e
        exact e.symm
theorem t_openF (h9 : ρ 9 = ftFm5 (ρ 2)) (hs0 : ∀ i, σ i = if i = ownJ (ρ 0) then lN 18446744073709551615 else lN 0) : sm D y_F_open 0 (lv_args 0 [.ref (ft_B D)]) [] (hD D ρ σ h0 hp3) 0 0 (fun v h' => v = some (.int (nI 1)) ∧ ∃ K, subH hpM K = true ∧ h' = hD D ρ σ h0 K) := by
  have hr := run_openF
  unfold openAll at hr
  split at hr
  · rename_i l e
    have q := ax_ok (D := D) (ρ := ρ) (σ := σ) (h0 := h0) (axSo_ok h9 hs0) axC_ok (fun h => absurd h (Nat.lt_irrefl 0)) 60000 [] y_F_open mr_F_open 0 [(0, .leaf (2, 0))] [] hp3 0 0 l (fun q hq => by cases hq) mo_F_open e
    refine sm.mono q ?_
    rintro v h' ⟨o, ho, -, hv, hh⟩
    have z := List.all_eq_true.mp hr o ho
    unfold openOut at z
    rw [Bool.and_eq_true] at z
    have z1 := z.1
    split at z1
    · rename_i a ha
      refine ⟨?_, o.2.2, z.2, hh⟩
      rw [hv, ha, aB_ok z1]
      rfl
    · cases z1
  · cases hr
theorem t_openM (h9 : ρ 9 = ftFm5 (ρ 2)) {K : AH} (hs : subH hpM K = true) : sm D y_M_open 0 (lv_args 0 [.ref (ft_B D + 215)]) [] (hD D ρ σ h0 K) 0 0 (fun v _ => v = some (.int (nI 1))) := by
  obtain ⟨l, e, hl⟩ := allOne_ok run_openM
  have q := ax_ok (D := D) (ρ := ρ) (σ := σ) (h0 := hD D ρ σ h0 K) (axS_ok h9) axC_ok (fun h => absurd h (Nat.lt_irrefl 0)) 60000 [] y_M_open mr_M_open 0 [(0, .leaf (2, 215))] [] hpM 0 0 l (fun q hq => by cases hq) mo_M_open e
  unfold axsm at q
  rw [hD_sub hs] at q
  refine sm.mono q ?_
  rintro v h' ⟨o, ho, -, hv, -⟩
  rw [hv, hl o ho]
  rfl
end OPEN
